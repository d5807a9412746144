theorem dX9_taken_31 : decode cX9_taken 31 = .ok (.istore 11, 2) := by decide +kernel
theorem dX9_taken_33 : decode cX9_taken 33 = .ok (.iload 11, 2) := by decide +kernel
theorem dX9_taken_35 : decode cX9_taken 35 = .ok (.bipush 60, 2) := by decide +kernel
theorem dX9_taken_37 : decode cX9_taken 37 = .ok (.if_icmp .ge 48, 3) := by decide +kernel
theorem dX9_taken_40 : decode cX9_taken 40 = .ok (.lload 6, 2) := by decide +kernel
theorem dX9_taken_42 : decode cX9_taken 42 = .ok (.aload_n 0, 1) := by decide +kernel
theorem dX9_taken_43 : decode cX9_taken 43 = .ok (.iload 10, 2) := by decide +kernel
theorem dX9_taken_45 : decode cX9_taken 45 = .ok (.iload 11, 2) := by decide +kernel
theorem dX9_taken_47 : decode cX9_taken 47 = .ok (.iload 8, 2) := by decide +kernel
theorem dX9_taken_49 : decode cX9_taken 49 = .ok (.iload 9, 2) := by decide +kernel
theorem dX9_taken_51 : decode cX9_taken 51 = .ok (.aload 5, 2) := by decide +kernel
theorem dX9_taken_53 : decode cX9_taken 53 = .ok (.invokevirtual 68, 3) := by decide +kernel
theorem dX9_taken_56 : decode cX9_taken 56 = .ok (.lcmp, 1) := by decide +kernel
theorem dX9_taken_57 : decode cX9_taken 57 = .ok (.ifCond .lt 28, 3) := by decide +kernel
theorem dX9_taken_60 : decode cX9_taken 60 = .ok (.lload 6, 2) := by decide +kernel
theorem dX9_taken_62 : decode cX9_taken 62 = .ok (.aload_n 0, 1) := by decide +kernel
theorem dX9_taken_63 : decode cX9_taken 63 = .ok (.iload 10, 2) := by decide +kernel
theorem dX9_taken_65 : decode cX9_taken 65 = .ok (.iload 11, 2) := by decide +kernel
theorem dX9_taken_67 : decode cX9_taken 67 = .ok (.iload 8, 2) := by decide +kernel
theorem dX9_taken_69 : decode cX9_taken 69 = .ok (.iload 9, 2) := by decide +kernel
theorem dX9_taken_71 : decode cX9_taken 71 = .ok (.aload 5, 2) := by decide +kernel
theorem dX9_taken_73 : decode cX9_taken 73 = .ok (.invokevirtual 68, 3) := by decide +kernel
theorem dX9_taken_76 : decode cX9_taken 76 = .ok (.lsub, 1) := by decide +kernel
theorem dX9_taken_77 : decode cX9_taken 77 = .ok (.lstore 6, 2) := by decide +kernel
theorem dX9_taken_79 : decode cX9_taken 79 = .ok (.iinc 11 1, 3) := by decide +kernel
theorem dX9_taken_82 : decode cX9_taken 82 = .ok (.goto (-49), 3) := by decide +kernel
theorem dX9_taken_85 : decode cX9_taken 85 = .ok (.iload 10, 2) := by decide +kernel
theorem dX9_taken_87 : decode cX9_taken 87 = .ok (.iload 4, 2) := by decide +kernel
theorem dX9_taken_89 : decode cX9_taken 89 = .ok (.if_icmp .ne 6, 3) := by decide +kernel
theorem dX9_taken_92 : decode cX9_taken 92 = .ok (.iload 11, 2) := by decide +kernel
theorem dX9_taken_94 : decode cX9_taken 94 = .ok (.ireturn, 1) := by decide +kernel
theorem dX9_taken_95 : decode cX9_taken 95 = .ok (.iload 8, 2) := by decide +kernel
theorem dX9_taken_97 : decode cX9_taken 97 = .ok (.iload 11, 2) := by decide +kernel
theorem dX9_taken_99 : decode cX9_taken 99 = .ok (.aload 5, 2) := by decide +kernel
theorem dX9_taken_101 : decode cX9_taken 101 = .ok (.getfield 48, 3) := by decide +kernel
theorem dX9_taken_104 : decode cX9_taken 104 = .ok (.iload 10, 2) := by decide +kernel
theorem dX9_taken_106 : decode cX9_taken 106 = .ok (.iaload, 1) := by decide +kernel
theorem dX9_taken_107 : decode cX9_taken 107 = .ok (.imul, 1) := by decide +kernel
theorem dX9_taken_108 : decode cX9_taken 108 = .ok (.isub, 1) := by decide +kernel
theorem dX9_taken_109 : decode cX9_taken 109 = .ok (.istore 8, 2) := by decide +kernel
theorem dX9_taken_111 : decode cX9_taken 111 = .ok (.iload 9, 2) := by decide +kernel
theorem dX9_taken_113 : decode cX9_taken 113 = .ok (.iload 11, 2) := by decide +kernel
theorem dX9_taken_115 : decode cX9_taken 115 = .ok (.aload 5, 2) := by decide +kernel
theorem dX9_taken_117 : decode cX9_taken 117 = .ok (.getfield 52, 3) := by decide +kernel
theorem dX9_taken_120 : decode cX9_taken 120 = .ok (.iload 10, 2) := by decide +kernel
theorem dX9_taken_122 : decode cX9_taken 122 = .ok (.iaload, 1) := by decide +kernel
theorem dX9_taken_123 : decode cX9_taken 123 = .ok (.imul, 1) := by decide +kernel
theorem dX9_taken_124 : decode cX9_taken 124 = .ok (.isub, 1) := by decide +kernel
theorem dX9_taken_125 : decode cX9_taken 125 = .ok (.istore 9, 2) := by decide +kernel
theorem dX9_taken_127 : decode cX9_taken 127 = .ok (.iinc 10 1, 3) := by decide +kernel
theorem dX9_taken_130 : decode cX9_taken 130 = .ok (.goto (-117), 3) := by decide +kernel
theorem dX9_taken_133 : decode cX9_taken 133 = .ok (.bipush (-3), 2) := by decide +kernel
theorem dX9_taken_135 : decode cX9_taken 135 = .ok (.ireturn, 1) := by decide +kernel
theorem dX9_through_0 : decode cX9_through 0 = .ok (.aload 5, 2) := by decide +kernel
theorem dX9_through_2 : decode cX9_through 2 = .ok (.iload_n 1, 1) := by decide +kernel
theorem dX9_through_3 : decode cX9_through 3 = .ok (.iload_n 2, 1) := by decide +kernel
theorem dX9_through_4 : decode cX9_through 4 = .ok (.invokevirtual 64, 3) := by decide +kernel
theorem dX9_through_7 : decode cX9_through 7 = .ok (.ifCond .ne 5, 3) := by decide +kernel
theorem dX9_through_10 : decode cX9_through 10 = .ok (.lconst 0, 1) := by decide +kernel
theorem dX9_through_11 : decode cX9_through 11 = .ok (.lreturn, 1) := by decide +kernel
theorem dX9_through_12 : decode cX9_through 12 = .ok (.aload_n 0, 1) := by decide +kernel
theorem dX9_through_13 : decode cX9_through 13 = .ok (.iload_n 1, 1) := by decide +kernel
theorem dX9_through_14 : decode cX9_through 14 = .ok (.iconst 1, 1) := by decide +kernel
theorem dX9_through_15 : decode cX9_through 15 = .ok (.iadd, 1) := by decide +kernel
theorem dX9_through_16 : decode cX9_through 16 = .ok (.iload_n 3, 1) := by decide +kernel
theorem dX9_through_17 : decode cX9_through 17 = .ok (.iload_n 2, 1) := by decide +kernel
theorem dX9_through_18 : decode cX9_through 18 = .ok (.aload 5, 2) := by decide +kernel
theorem dX9_through_20 : decode cX9_through 20 = .ok (.getfield 48, 3) := by decide +kernel
theorem dX9_through_23 : decode cX9_through 23 = .ok (.iload_n 1, 1) := by decide +kernel
theorem dX9_through_24 : decode cX9_through 24 = .ok (.iaload, 1) := by decide +kernel
theorem dX9_through_25 : decode cX9_through 25 = .ok (.imul, 1) := by decide +kernel
theorem dX9_through_26 : decode cX9_through 26 = .ok (.isub, 1) := by decide +kernel
theorem dX9_through_27 : decode cX9_through 27 = .ok (.iload 4, 2) := by decide +kernel
theorem dX9_through_29 : decode cX9_through 29 = .ok (.iload_n 2, 1) := by decide +kernel
theorem dX9_through_30 : decode cX9_through 30 = .ok (.aload 5, 2) := by decide +kernel
theorem dX9_through_32 : decode cX9_through 32 = .ok (.getfield 52, 3) := by decide +kernel
theorem dX9_through_35 : decode cX9_through 35 = .ok (.iload_n 1, 1) := by decide +kernel
theorem dX9_through_36 : decode cX9_through 36 = .ok (.iaload, 1) := by decide +kernel
theorem dX9_through_37 : decode cX9_through 37 = .ok (.imul, 1) := by decide +kernel
theorem dX9_through_38 : decode cX9_through 38 = .ok (.isub, 1) := by decide +kernel
theorem dX9_through_39 : decode cX9_through 39 = .ok (.invokevirtual 60, 3) := by decide +kernel
theorem dX9_through_42 : decode cX9_through 42 = .ok (.lreturn, 1) := by decide +kernel
theorem dX10_init_0 : decode cX10_init 0 = .ok (.aload_n 0, 1) := by decide +kernel
theorem dX10_init_1 : decode cX10_init 1 = .ok (.invokespecial 5, 3) := by decide +kernel
theorem dX10_init_4 : decode cX10_init 4 = .ok (.aload_n 0, 1) := by decide +kernel
theorem dX10_init_5 : decode cX10_init 5 = .ok (.new 11, 3) := by decide +kernel
theorem dX10_init_8 : decode cX10_init 8 = .ok (.dup, 1) := by decide +kernel
theorem dX10_init_9 : decode cX10_init 9 = .ok (.invokespecial 13, 3) := by decide +kernel
theorem dX10_init_12 : decode cX10_init 12 = .ok (.putfield 14, 3) := by decide +kernel
theorem dX10_init_15 : decode cX10_init 15 = .ok (.aload_n 0, 1) := by decide +kernel
theorem dX10_init_16 : decode cX10_init 16 = .ok (.new 11, 3) := by decide +kernel
theorem dX10_init_19 : decode cX10_init 19 = .ok (.dup, 1) := by decide +kernel
theorem dX10_init_20 : decode cX10_init 20 = .ok (.invokespecial 13, 3) := by decide +kernel
theorem dX10_init_23 : decode cX10_init 23 = .ok (.putfield 18, 3) := by decide +kernel
theorem dX10_init_26 : decode cX10_init 26 = .ok (.aload_n 0, 1) := by decide +kernel
theorem dX10_init_27 : decode cX10_init 27 = .ok (.new 21, 3) := by decide +kernel
theorem dX10_init_30 : decode cX10_init 30 = .ok (.dup, 1) := by decide +kernel
theorem dX10_init_31 : decode cX10_init 31 = .ok (.invokespecial 23, 3) := by decide +kernel
theorem dX10_init_34 : decode cX10_init 34 = .ok (.putfield 24, 3) := by decide +kernel
theorem dX10_init_37 : decode cX10_init 37 = .ok (.aload_n 0, 1) := by decide +kernel
theorem dX10_init_38 : decode cX10_init 38 = .ok (.new 28, 3) := by decide +kernel
theorem dX10_init_41 : decode cX10_init 41 = .ok (.dup, 1) := by decide +kernel
theorem dX10_init_42 : decode cX10_init 42 = .ok (.invokespecial 30, 3) := by decide +kernel
theorem dX10_init_45 : decode cX10_init 45 = .ok (.putfield 31, 3) := by decide +kernel
theorem dX10_init_48 : decode cX10_init 48 = .ok (.aload_n 0, 1) := by decide +kernel
theorem dX10_init_49 : decode cX10_init 49 = .ok (.new 35, 3) := by decide +kernel
theorem dX10_init_52 : decode cX10_init 52 = .ok (.dup, 1) := by decide +kernel
theorem dX10_init_53 : decode cX10_init 53 = .ok (.invokespecial 37, 3) := by decide +kernel
theorem dX10_init_56 : decode cX10_init 56 = .ok (.putfield 38, 3) := by decide +kernel
theorem dX10_init_59 : decode cX10_init 59 = .ok (.aload_n 0, 1) := by decide +kernel
theorem dX10_init_60 : decode cX10_init 60 = .ok (.new 42, 3) := by decide +kernel
theorem dX10_init_63 : decode cX10_init 63 = .ok (.dup, 1) := by decide +kernel
theorem dX10_init_64 : decode cX10_init 64 = .ok (.invokespecial 44, 3) := by decide +kernel
theorem dX10_init_67 : decode cX10_init 67 = .ok (.putfield 45, 3) := by decide +kernel
theorem dX10_init_70 : decode cX10_init 70 = .ok (.aload_n 0, 1) := by decide +kernel
theorem dX10_init_71 : decode cX10_init 71 = .ok (.new 49, 3) := by decide +kernel
theorem dX10_init_74 : decode cX10_init 74 = .ok (.dup, 1) := by decide +kernel
theorem dX10_init_75 : decode cX10_init 75 = .ok (.invokespecial 51, 3) := by decide +kernel
theorem dX10_init_78 : decode cX10_init 78 = .ok (.putfield 52, 3) := by decide +kernel
theorem dX10_init_81 : decode cX10_init 81 = .ok (.aload_n 0, 1) := by decide +kernel
theorem dX10_init_82 : decode cX10_init 82 = .ok (.new 56, 3) := by decide +kernel
theorem dX10_init_85 : decode cX10_init 85 = .ok (.dup, 1) := by decide +kernel
theorem dX10_init_86 : decode cX10_init 86 = .ok (.invokespecial 58, 3) := by decide +kernel
theorem dX10_init_89 : decode cX10_init 89 = .ok (.putfield 59, 3) := by decide +kernel
theorem dX10_init_92 : decode cX10_init 92 = .ok (.aload_n 0, 1) := by decide +kernel
theorem dX10_init_93 : decode cX10_init 93 = .ok (.new 63, 3) := by decide +kernel
theorem dX10_init_96 : decode cX10_init 96 = .ok (.dup, 1) := by decide +kernel
theorem dX10_init_97 : decode cX10_init 97 = .ok (.invokespecial 65, 3) := by decide +kernel
theorem dX10_init_100 : decode cX10_init 100 = .ok (.putfield 66, 3) := by decide +kernel
theorem dX10_init_103 : decode cX10_init 103 = .ok (.aload_n 0, 1) := by decide +kernel
theorem dX10_init_104 : decode cX10_init 104 = .ok (.new 70, 3) := by decide +kernel
theorem dX10_init_107 : decode cX10_init 107 = .ok (.dup, 1) := by decide +kernel
theorem dX10_init_108 : decode cX10_init 108 = .ok (.invokespecial 72, 3) := by decide +kernel
theorem dX10_init_111 : decode cX10_init 111 = .ok (.putfield 73, 3) := by decide +kernel
theorem dX10_init_114 : decode cX10_init 114 = .ok (.aload_n 0, 1) := by decide +kernel
theorem dX10_init_115 : decode cX10_init 115 = .ok (.iconst 4, 1) := by decide +kernel
theorem dX10_init_116 : decode cX10_init 116 = .ok (.anewarray 77, 3) := by decide +kernel
theorem dX10_init_119 : decode cX10_init 119 = .ok (.putfield 79, 3) := by decide +kernel
theorem dX10_init_122 : decode cX10_init 122 = .ok (.aload_n 0, 1) := by decide +kernel
theorem dX10_init_123 : decode cX10_init 123 = .ok (.iconst 0, 1) := by decide +kernel
theorem dX10_init_124 : decode cX10_init 124 = .ok (.putfield 83, 3) := by decide +kernel
theorem dX10_init_127 : decode cX10_init 127 = .ok (.aload_n 0, 1) := by decide +kernel
theorem dX10_init_128 : decode cX10_init 128 = .ok (.iconst 1, 1) := by decide +kernel
theorem dX10_init_129 : decode cX10_init 129 = .ok (.putfield 87, 3) := by decide +kernel
theorem dX10_init_132 : decode cX10_init 132 = .ok (.aload_n 0, 1) := by decide +kernel
theorem dX10_init_133 : decode cX10_init 133 = .ok (.iconst 1, 1) := by decide +kernel
theorem dX10_init_134 : decode cX10_init 134 = .ok (.putfield 91, 3) := by decide +kernel
theorem dX10_init_137 : decode cX10_init 137 = .ok (.iconst 0, 1) := by decide +kernel
theorem dX10_init_138 : decode cX10_init 138 = .ok (.istore_n 1, 1) := by decide +kernel
theorem dX10_init_139 : decode cX10_init 139 = .ok (.iload_n 1, 1) := by decide +kernel
theorem dX10_init_140 : decode cX10_init 140 = .ok (.iconst 4, 1) := by decide +kernel
theorem dX10_init_141 : decode cX10_init 141 = .ok (.if_icmp .ge 22, 3) := by decide +kernel
theorem dX10_init_144 : decode cX10_init 144 = .ok (.aload_n 0, 1) := by decide +kernel
theorem dX10_init_145 : decode cX10_init 145 = .ok (.getfield 79, 3) := by decide +kernel
theorem dX10_init_148 : decode cX10_init 148 = .ok (.iload_n 1, 1) := by decide +kernel
theorem dX10_init_149 : decode cX10_init 149 = .ok (.new 77, 3) := by decide +kernel
theorem dX10_init_152 : decode cX10_init 152 = .ok (.dup, 1) := by decide +kernel
theorem dX10_init_153 : decode cX10_init 153 = .ok (.invokespecial 94, 3) := by decide +kernel
theorem dX10_init_156 : decode cX10_init 156 = .ok (.aastore, 1) := by decide +kernel
theorem dX10_init_157 : decode cX10_init 157 = .ok (.iinc 1 1, 3) := by decide +kernel
theorem dX10_init_160 : decode cX10_init 160 = .ok (.goto (-21), 3) := by decide +kernel
theorem dX10_init_163 : decode cX10_init 163 = .ok (.return_, 1) := by decide +kernel
theorem dX10_part_0 : decode cX10_part 0 = .ok (.iload_n 1, 1) := by decide +kernel
theorem dX10_part_1 : decode cX10_part 1 = .ok (.iload_n 2, 1) := by decide +kernel
theorem dX10_part_2 : decode cX10_part 2 = .ok (.invokestatic 95, 3) := by decide +kernel
theorem dX10_part_5 : decode cX10_part 5 = .ok (.ifCond .ne 5, 3) := by decide +kernel
theorem dX10_part_8 : decode cX10_part 8 = .ok (.iconst (-1), 1) := by decide +kernel
theorem dX10_part_9 : decode cX10_part 9 = .ok (.ireturn, 1) := by decide +kernel
theorem dX10_part_10 : decode cX10_part 10 = .ok (.aload_n 0, 1) := by decide +kernel
theorem dX10_part_11 : decode cX10_part 11 = .ok (.iload_n 1, 1) := by decide +kernel
theorem dX10_part_12 : decode cX10_part 12 = .ok (.iload_n 2, 1) := by decide +kernel
theorem dX10_part_13 : decode cX10_part 13 = .ok (.invokevirtual 99, 3) := by decide +kernel
theorem dX10_part_16 : decode cX10_part 16 = .ok (.ireturn, 1) := by decide +kernel
theorem dX10_arc_0 : decode cX10_arc 0 = .ok (.iload_n 1, 1) := by decide +kernel
theorem dX10_arc_1 : decode cX10_arc 1 = .ok (.ifCond .lt 13, 3) := by decide +kernel
theorem dX10_arc_4 : decode cX10_arc 4 = .ok (.iload_n 2, 1) := by decide +kernel
theorem dX10_arc_5 : decode cX10_arc 5 = .ok (.iconst 2, 1) := by decide +kernel
theorem dX10_arc_6 : decode cX10_arc 6 = .ok (.if_icmp .gt 8, 3) := by decide +kernel
theorem dX10_arc_9 : decode cX10_arc 9 = .ok (.iload_n 1, 1) := by decide +kernel
theorem dX10_arc_10 : decode cX10_arc 10 = .ok (.iload_n 2, 1) := by decide +kernel
theorem dX10_arc_11 : decode cX10_arc 11 = .ok (.if_icmp .lt 5, 3) := by decide +kernel
theorem dX10_arc_14 : decode cX10_arc 14 = .ok (.iconst (-1), 1) := by decide +kernel
theorem dX10_arc_15 : decode cX10_arc 15 = .ok (.ireturn, 1) := by decide +kernel
theorem dX10_arc_16 : decode cX10_arc 16 = .ok (.aload_n 0, 1) := by decide +kernel
theorem dX10_arc_17 : decode cX10_arc 17 = .ok (.iload_n 1, 1) := by decide +kernel
theorem dX10_arc_18 : decode cX10_arc 18 = .ok (.ifCond .ne 7, 3) := by decide +kernel
theorem dX10_arc_21 : decode cX10_arc 21 = .ok (.iconst 1, 1) := by decide +kernel
theorem dX10_arc_22 : decode cX10_arc 22 = .ok (.goto 4, 3) := by decide +kernel
theorem dX10_arc_25 : decode cX10_arc 25 = .ok (.iconst 0, 1) := by decide +kernel
theorem dX10_arc_26 : decode cX10_arc 26 = .ok (.iload_n 2, 1) := by decide +kernel
theorem dX10_arc_27 : decode cX10_arc 27 = .ok (.iconst 2, 1) := by decide +kernel
theorem dX10_arc_28 : decode cX10_arc 28 = .ok (.if_icmp .ne 7, 3) := by decide +kernel
theorem dX10_arc_31 : decode cX10_arc 31 = .ok (.iconst 1, 1) := by decide +kernel
theorem dX10_arc_32 : decode cX10_arc 32 = .ok (.goto 4, 3) := by decide +kernel
theorem dX10_arc_35 : decode cX10_arc 35 = .ok (.iconst 0, 1) := by decide +kernel
theorem dX10_arc_36 : decode cX10_arc 36 = .ok (.invokevirtual 99, 3) := by decide +kernel
theorem dX10_arc_39 : decode cX10_arc 39 = .ok (.ireturn, 1) := by decide +kernel
theorem dX10_drop_0 : decode cX10_drop 0 = .ok (.aload_n 0, 1) := by decide +kernel
theorem dX10_drop_1 : decode cX10_drop 1 = .ok (.getfield 14, 3) := by decide +kernel
theorem dX10_drop_4 : decode cX10_drop 4 = .ok (.getfield 103, 3) := by decide +kernel
theorem dX10_drop_7 : decode cX10_drop 7 = .ok (.iconst 1, 1) := by decide +kernel
theorem dX10_drop_8 : decode cX10_drop 8 = .ok (.if_icmp .ge 6, 3) := by decide +kernel
theorem dX10_drop_11 : decode cX10_drop 11 = .ok (.bipush (-3), 2) := by decide +kernel
theorem dX10_drop_13 : decode cX10_drop 13 = .ok (.ireturn, 1) := by decide +kernel
theorem dX10_drop_14 : decode cX10_drop 14 = .ok (.aload_n 0, 1) := by decide +kernel
theorem dX10_drop_15 : decode cX10_drop 15 = .ok (.getfield 24, 3) := by decide +kernel
theorem dX10_drop_18 : decode cX10_drop 18 = .ok (.aload_n 0, 1) := by decide +kernel
theorem dX10_drop_19 : decode cX10_drop 19 = .ok (.getfield 14, 3) := by decide +kernel
theorem dX10_drop_22 : decode cX10_drop 22 = .ok (.invokevirtual 106, 3) := by decide +kernel
theorem dX10_drop_25 : decode cX10_drop 25 = .ok (.aload_n 0, 1) := by decide +kernel
theorem dX10_drop_26 : decode cX10_drop 26 = .ok (.getfield 14, 3) := by decide +kernel
theorem dX10_drop_29 : decode cX10_drop 29 = .ok (.dup, 1) := by decide +kernel
theorem dX10_drop_30 : decode cX10_drop 30 = .ok (.getfield 103, 3) := by decide +kernel
theorem dX10_drop_33 : decode cX10_drop 33 = .ok (.iconst 1, 1) := by decide +kernel
theorem dX10_drop_34 : decode cX10_drop 34 = .ok (.isub, 1) := by decide +kernel
theorem dX10_drop_35 : decode cX10_drop 35 = .ok (.putfield 103, 3) := by decide +kernel
theorem dX10_drop_38 : decode cX10_drop 38 = .ok (.aload_n 0, 1) := by decide +kernel
theorem dX10_drop_39 : decode cX10_drop 39 = .ok (.invokevirtual 110, 3) := by decide +kernel
theorem dX10_drop_42 : decode cX10_drop 42 = .ok (.aload_n 0, 1) := by decide +kernel
theorem dX10_drop_43 : decode cX10_drop 43 = .ok (.getfield 14, 3) := by decide +kernel
theorem dX10_drop_46 : decode cX10_drop 46 = .ok (.getfield 103, 3) := by decide +kernel
theorem dX10_drop_49 : decode cX10_drop 49 = .ok (.ireturn, 1) := by decide +kernel
theorem dX10_weigh_0 : decode cX10_weigh 0 = .ok (.aload_n 0, 1) := by decide +kernel
theorem dX10_weigh_1 : decode cX10_weigh 1 = .ok (.getfield 14, 3) := by decide +kernel
theorem dX10_weigh_4 : decode cX10_weigh 4 = .ok (.iload_n 1, 1) := by decide +kernel
theorem dX10_weigh_5 : decode cX10_weigh 5 = .ok (.invokevirtual 113, 3) := by decide +kernel
theorem dX10_weigh_8 : decode cX10_weigh 8 = .ok (.ifCond .eq 14, 3) := by decide +kernel
theorem dX10_weigh_11 : decode cX10_weigh 11 = .ok (.iload_n 2, 1) := by decide +kernel
theorem dX10_weigh_12 : decode cX10_weigh 12 = .ok (.iconst 1, 1) := by decide +kernel
theorem dX10_weigh_13 : decode cX10_weigh 13 = .ok (.if_icmp .lt 9, 3) := by decide +kernel
theorem dX10_weigh_16 : decode cX10_weigh 16 = .ok (.iload_n 2, 1) := by decide +kernel
theorem dX10_weigh_17 : decode cX10_weigh 17 = .ok (.bipush 99, 2) := by decide +kernel
theorem dX10_weigh_19 : decode cX10_weigh 19 = .ok (.if_icmp .le 5, 3) := by decide +kernel
theorem dX10_weigh_22 : decode cX10_weigh 22 = .ok (.iconst (-1), 1) := by decide +kernel
theorem dX10_weigh_23 : decode cX10_weigh 23 = .ok (.ireturn, 1) := by decide +kernel
theorem dX10_weigh_24 : decode cX10_weigh 24 = .ok (.aload_n 0, 1) := by decide +kernel
theorem dX10_weigh_25 : decode cX10_weigh 25 = .ok (.getfield 24, 3) := by decide +kernel
theorem dX10_weigh_28 : decode cX10_weigh 28 = .ok (.aload_n 0, 1) := by decide +kernel
theorem dX10_weigh_29 : decode cX10_weigh 29 = .ok (.getfield 14, 3) := by decide +kernel
theorem dX10_weigh_32 : decode cX10_weigh 32 = .ok (.invokevirtual 106, 3) := by decide +kernel
theorem dX10_weigh_35 : decode cX10_weigh 35 = .ok (.aload_n 0, 1) := by decide +kernel
theorem dX10_weigh_36 : decode cX10_weigh 36 = .ok (.getfield 14, 3) := by decide +kernel
theorem dX10_weigh_39 : decode cX10_weigh 39 = .ok (.getfield 117, 3) := by decide +kernel
theorem dX10_weigh_42 : decode cX10_weigh 42 = .ok (.iload_n 1, 1) := by decide +kernel
theorem dX10_weigh_43 : decode cX10_weigh 43 = .ok (.iaload, 1) := by decide +kernel
theorem dX10_weigh_44 : decode cX10_weigh 44 = .ok (.istore_n 3, 1) := by decide +kernel
theorem dX10_weigh_45 : decode cX10_weigh 45 = .ok (.aload_n 0, 1) := by decide +kernel
theorem dX10_weigh_46 : decode cX10_weigh 46 = .ok (.getfield 14, 3) := by decide +kernel
theorem dX10_weigh_49 : decode cX10_weigh 49 = .ok (.getfield 117, 3) := by decide +kernel
theorem dX10_weigh_52 : decode cX10_weigh 52 = .ok (.iload_n 1, 1) := by decide +kernel
theorem dX10_weigh_53 : decode cX10_weigh 53 = .ok (.iload_n 2, 1) := by decide +kernel
theorem dX10_weigh_54 : decode cX10_weigh 54 = .ok (.iastore, 1) := by decide +kernel
theorem dX10_weigh_55 : decode cX10_weigh 55 = .ok (.iload_n 3, 1) := by decide +kernel
theorem dX10_weigh_56 : decode cX10_weigh 56 = .ok (.ireturn, 1) := by decide +kernel
theorem dX10_partOf_0 : decode cX10_partOf 0 = .ok (.aload_n 0, 1) := by decide +kernel
theorem dX10_partOf_1 : decode cX10_partOf 1 = .ok (.getfield 14, 3) := by decide +kernel
theorem dX10_partOf_4 : decode cX10_partOf 4 = .ok (.iload_n 1, 1) := by decide +kernel
theorem dX10_partOf_5 : decode cX10_partOf 5 = .ok (.invokevirtual 113, 3) := by decide +kernel
theorem dX10_partOf_8 : decode cX10_partOf 8 = .ok (.ifCond .ne 5, 3) := by decide +kernel
theorem dX10_partOf_11 : decode cX10_partOf 11 = .ok (.iconst (-1), 1) := by decide +kernel
theorem dX10_partOf_12 : decode cX10_partOf 12 = .ok (.ireturn, 1) := by decide +kernel
theorem dX10_partOf_13 : decode cX10_partOf 13 = .ok (.iload_n 2, 1) := by decide +kernel
theorem dX10_partOf_14 : decode cX10_partOf 14 = .ok (.tableswitch 87 0 4 #[34, 44, 54, 64, 74], 34) := by decide +kernel
theorem dX10_partOf_48 : decode cX10_partOf 48 = .ok (.aload_n 0, 1) := by decide +kernel
theorem dX10_partOf_49 : decode cX10_partOf 49 = .ok (.getfield 14, 3) := by decide +kernel
theorem dX10_partOf_52 : decode cX10_partOf 52 = .ok (.getfield 121, 3) := by decide +kernel
theorem dX10_partOf_55 : decode cX10_partOf 55 = .ok (.iload_n 1, 1) := by decide +kernel
theorem dX10_partOf_56 : decode cX10_partOf 56 = .ok (.iaload, 1) := by decide +kernel
theorem dX10_partOf_57 : decode cX10_partOf 57 = .ok (.ireturn, 1) := by decide +kernel
theorem dX10_partOf_58 : decode cX10_partOf 58 = .ok (.aload_n 0, 1) := by decide +kernel
theorem dX10_partOf_59 : decode cX10_partOf 59 = .ok (.getfield 14, 3) := by decide +kernel
theorem dX10_partOf_62 : decode cX10_partOf 62 = .ok (.getfield 124, 3) := by decide +kernel
theorem dX10_partOf_65 : decode cX10_partOf 65 = .ok (.iload_n 1, 1) := by decide +kernel
theorem dX10_partOf_66 : decode cX10_partOf 66 = .ok (.iaload, 1) := by decide +kernel
theorem dX10_partOf_67 : decode cX10_partOf 67 = .ok (.ireturn, 1) := by decide +kernel
theorem dX10_partOf_68 : decode cX10_partOf 68 = .ok (.aload_n 0, 1) := by decide +kernel
theorem dX10_partOf_69 : decode cX10_partOf 69 = .ok (.getfield 14, 3) := by decide +kernel
theorem dX10_partOf_72 : decode cX10_partOf 72 = .ok (.getfield 117, 3) := by decide +kernel
theorem dX10_partOf_75 : decode cX10_partOf 75 = .ok (.iload_n 1, 1) := by decide +kernel
theorem dX10_partOf_76 : decode cX10_partOf 76 = .ok (.iaload, 1) := by decide +kernel
theorem dX10_partOf_77 : decode cX10_partOf 77 = .ok (.ireturn, 1) := by decide +kernel
theorem dX10_partOf_78 : decode cX10_partOf 78 = .ok (.aload_n 0, 1) := by decide +kernel
theorem dX10_partOf_79 : decode cX10_partOf 79 = .ok (.getfield 45, 3) := by decide +kernel
theorem dX10_partOf_82 : decode cX10_partOf 82 = .ok (.getfield 127, 3) := by decide +kernel
theorem dX10_partOf_85 : decode cX10_partOf 85 = .ok (.iload_n 1, 1) := by decide +kernel
theorem dX10_partOf_86 : decode cX10_partOf 86 = .ok (.iaload, 1) := by decide +kernel
theorem dX10_partOf_87 : decode cX10_partOf 87 = .ok (.ireturn, 1) := by decide +kernel
theorem dX10_partOf_88 : decode cX10_partOf 88 = .ok (.aload_n 0, 1) := by decide +kernel
theorem dX10_partOf_89 : decode cX10_partOf 89 = .ok (.getfield 14, 3) := by decide +kernel
theorem dX10_partOf_92 : decode cX10_partOf 92 = .ok (.getfield 130, 3) := by decide +kernel
theorem dX10_partOf_95 : decode cX10_partOf 95 = .ok (.iload_n 1, 1) := by decide +kernel
theorem dX10_partOf_96 : decode cX10_partOf 96 = .ok (.laload, 1) := by decide +kernel
theorem dX10_partOf_97 : decode cX10_partOf 97 = .ok (.invokestatic 134, 3) := by decide +kernel
theorem dX10_partOf_100 : decode cX10_partOf 100 = .ok (.ireturn, 1) := by decide +kernel
theorem dX10_partOf_101 : decode cX10_partOf 101 = .ok (.iconst (-1), 1) := by decide +kernel
theorem dX10_partOf_102 : decode cX10_partOf 102 = .ok (.ireturn, 1) := by decide +kernel
theorem dX10_feed_0 : decode cX10_feed 0 = .ok (.iload_n 3, 1) := by decide +kernel
theorem dX10_feed_1 : decode cX10_feed 1 = .ok (.iconst 1, 1) := by decide +kernel
theorem dX10_feed_2 : decode cX10_feed 2 = .ok (.if_icmp .lt 9, 3) := by decide +kernel
theorem dX10_feed_5 : decode cX10_feed 5 = .ok (.iload_n 3, 1) := by decide +kernel
theorem dX10_feed_6 : decode cX10_feed 6 = .ok (.bipush 8, 2) := by decide +kernel
theorem dX10_feed_8 : decode cX10_feed 8 = .ok (.if_icmp .le 5, 3) := by decide +kernel
theorem dX10_feed_11 : decode cX10_feed 11 = .ok (.iconst (-1), 1) := by decide +kernel
theorem dX10_feed_12 : decode cX10_feed 12 = .ok (.ireturn, 1) := by decide +kernel
theorem dX10_feed_13 : decode cX10_feed 13 = .ok (.iload_n 3, 1) := by decide +kernel
theorem dX10_feed_14 : decode cX10_feed 14 = .ok (.bipush 100, 2) := by decide +kernel
theorem dX10_feed_16 : decode cX10_feed 16 = .ok (.aload_n 0, 1) := by decide +kernel
theorem dX10_feed_17 : decode cX10_feed 17 = .ok (.getfield 31, 3) := by decide +kernel
theorem dX10_feed_20 : decode cX10_feed 20 = .ok (.getfield 138, 3) := by decide +kernel
theorem dX10_feed_23 : decode cX10_feed 23 = .ok (.isub, 1) := by decide +kernel
theorem dX10_feed_24 : decode cX10_feed 24 = .ok (.if_icmp .le 6, 3) := by decide +kernel
theorem dX10_feed_27 : decode cX10_feed 27 = .ok (.bipush (-2), 2) := by decide +kernel
theorem dX10_feed_29 : decode cX10_feed 29 = .ok (.ireturn, 1) := by decide +kernel
theorem dX10_feed_30 : decode cX10_feed 30 = .ok (.iconst 0, 1) := by decide +kernel
theorem dX10_feed_31 : decode cX10_feed 31 = .ok (.istore 4, 2) := by decide +kernel
theorem dX10_feed_33 : decode cX10_feed 33 = .ok (.iload 4, 2) := by decide +kernel
theorem dX10_feed_35 : decode cX10_feed 35 = .ok (.iload_n 3, 1) := by decide +kernel
theorem dX10_feed_36 : decode cX10_feed 36 = .ok (.if_icmp .ge 25, 3) := by decide +kernel
theorem dX10_feed_39 : decode cX10_feed 39 = .ok (.aload_n 0, 1) := by decide +kernel
theorem dX10_feed_40 : decode cX10_feed 40 = .ok (.getfield 31, 3) := by decide +kernel
theorem dX10_feed_43 : decode cX10_feed 43 = .ok (.lload_n 1, 1) := by decide +kernel
theorem dX10_feed_44 : decode cX10_feed 44 = .ok (.bipush 8, 2) := by decide +kernel
theorem dX10_feed_46 : decode cX10_feed 46 = .ok (.iload 4, 2) := by decide +kernel
theorem dX10_feed_48 : decode cX10_feed 48 = .ok (.imul, 1) := by decide +kernel
theorem dX10_feed_49 : decode cX10_feed 49 = .ok (.lushr, 1) := by decide +kernel
theorem dX10_feed_50 : decode cX10_feed 50 = .ok (.l2i, 1) := by decide +kernel
theorem dX10_feed_51 : decode cX10_feed 51 = .ok (.i2b, 1) := by decide +kernel
theorem dX10_feed_52 : decode cX10_feed 52 = .ok (.invokevirtual 139, 3) := by decide +kernel
theorem dX10_feed_55 : decode cX10_feed 55 = .ok (.iinc 4 1, 3) := by decide +kernel
theorem dX10_feed_58 : decode cX10_feed 58 = .ok (.goto (-25), 3) := by decide +kernel
theorem dX10_feed_61 : decode cX10_feed 61 = .ok (.aload_n 0, 1) := by decide +kernel
theorem dX10_feed_62 : decode cX10_feed 62 = .ok (.getfield 31, 3) := by decide +kernel
theorem dX10_feed_65 : decode cX10_feed 65 = .ok (.getfield 138, 3) := by decide +kernel
theorem dX10_feed_68 : decode cX10_feed 68 = .ok (.ireturn, 1) := by decide +kernel
theorem dX10_rule_0 : decode cX10_rule 0 = .ok (.aload_n 0, 1) := by decide +kernel
theorem dX10_rule_1 : decode cX10_rule 1 = .ok (.getfield 14, 3) := by decide +kernel
theorem dX10_rule_4 : decode cX10_rule 4 = .ok (.iload_n 1, 1) := by decide +kernel
theorem dX10_rule_5 : decode cX10_rule 5 = .ok (.invokevirtual 113, 3) := by decide +kernel
theorem dX10_rule_8 : decode cX10_rule 8 = .ok (.ifCond .ne 5, 3) := by decide +kernel
theorem dX10_rule_11 : decode cX10_rule 11 = .ok (.iconst (-1), 1) := by decide +kernel
theorem dX10_rule_12 : decode cX10_rule 12 = .ok (.ireturn, 1) := by decide +kernel
theorem dX10_rule_13 : decode cX10_rule 13 = .ok (.aload_n 0, 1) := by decide +kernel
theorem dX10_rule_14 : decode cX10_rule 14 = .ok (.getfield 38, 3) := by decide +kernel
theorem dX10_rule_17 : decode cX10_rule 17 = .ok (.aload_n 0, 1) := by decide +kernel
theorem dX10_rule_18 : decode cX10_rule 18 = .ok (.getfield 31, 3) := by decide +kernel
theorem dX10_rule_21 : decode cX10_rule 21 = .ok (.invokevirtual 143, 3) := by decide +kernel
theorem dX10_rule_24 : decode cX10_rule 24 = .ok (.istore_n 2, 1) := by decide +kernel
theorem dX10_rule_25 : decode cX10_rule 25 = .ok (.aload_n 0, 1) := by decide +kernel
theorem dX10_rule_26 : decode cX10_rule 26 = .ok (.getfield 31, 3) := by decide +kernel
theorem dX10_rule_29 : decode cX10_rule 29 = .ok (.invokevirtual 147, 3) := by decide +kernel
theorem dX10_rule_32 : decode cX10_rule 32 = .ok (.iload_n 2, 1) := by decide +kernel
theorem dX10_rule_33 : decode cX10_rule 33 = .ok (.ifCond .lt 8, 3) := by decide +kernel
theorem dX10_rule_36 : decode cX10_rule 36 = .ok (.bipush (-100), 2) := by decide +kernel
theorem dX10_rule_38 : decode cX10_rule 38 = .ok (.iload_n 2, 1) := by decide +kernel
theorem dX10_rule_39 : decode cX10_rule 39 = .ok (.isub, 1) := by decide +kernel
theorem dX10_rule_40 : decode cX10_rule 40 = .ok (.ireturn, 1) := by decide +kernel
theorem dX10_rule_41 : decode cX10_rule 41 = .ok (.aload_n 0, 1) := by decide +kernel
theorem dX10_rule_42 : decode cX10_rule 42 = .ok (.getfield 24, 3) := by decide +kernel
theorem dX10_rule_45 : decode cX10_rule 45 = .ok (.aload_n 0, 1) := by decide +kernel
theorem dX10_rule_46 : decode cX10_rule 46 = .ok (.getfield 14, 3) := by decide +kernel
theorem dX10_rule_49 : decode cX10_rule 49 = .ok (.invokevirtual 106, 3) := by decide +kernel
theorem dX10_rule_52 : decode cX10_rule 52 = .ok (.aload_n 0, 1) := by decide +kernel
theorem dX10_rule_53 : decode cX10_rule 53 = .ok (.getfield 14, 3) := by decide +kernel
theorem dX10_rule_56 : decode cX10_rule 56 = .ok (.getfield 130, 3) := by decide +kernel
theorem dX10_rule_59 : decode cX10_rule 59 = .ok (.iload_n 1, 1) := by decide +kernel
theorem dX10_rule_60 : decode cX10_rule 60 = .ok (.aload_n 0, 1) := by decide +kernel
theorem dX10_rule_61 : decode cX10_rule 61 = .ok (.getfield 38, 3) := by decide +kernel
theorem dX10_rule_64 : decode cX10_rule 64 = .ok (.getfield 150, 3) := by decide +kernel
theorem dX10_rule_67 : decode cX10_rule 67 = .ok (.lastore, 1) := by decide +kernel
theorem dX10_rule_68 : decode cX10_rule 68 = .ok (.aload_n 0, 1) := by decide +kernel
theorem dX10_rule_69 : decode cX10_rule 69 = .ok (.invokevirtual 110, 3) := by decide +kernel
theorem dX10_rule_72 : decode cX10_rule 72 = .ok (.aload_n 0, 1) := by decide +kernel
theorem dX10_rule_73 : decode cX10_rule 73 = .ok (.getfield 38, 3) := by decide +kernel
theorem dX10_rule_76 : decode cX10_rule 76 = .ok (.getfield 150, 3) := by decide +kernel
theorem dX10_rule_79 : decode cX10_rule 79 = .ok (.invokestatic 134, 3) := by decide +kernel
theorem dX10_rule_82 : decode cX10_rule 82 = .ok (.ireturn, 1) := by decide +kernel
theorem dX10_lets_0 : decode cX10_lets 0 = .ok (.aload_n 0, 1) := by decide +kernel
theorem dX10_lets_1 : decode cX10_lets 1 = .ok (.getfield 14, 3) := by decide +kernel
theorem dX10_lets_4 : decode cX10_lets 4 = .ok (.iload_n 1, 1) := by decide +kernel
theorem dX10_lets_5 : decode cX10_lets 5 = .ok (.invokevirtual 113, 3) := by decide +kernel
theorem dX10_lets_8 : decode cX10_lets 8 = .ok (.ifCond .eq 13, 3) := by decide +kernel
theorem dX10_lets_11 : decode cX10_lets 11 = .ok (.iload_n 2, 1) := by decide +kernel
theorem dX10_lets_12 : decode cX10_lets 12 = .ok (.ifCond .lt 9, 3) := by decide +kernel
theorem dX10_lets_15 : decode cX10_lets 15 = .ok (.iload_n 2, 1) := by decide +kernel
theorem dX10_lets_16 : decode cX10_lets 16 = .ok (.bipush 60, 2) := by decide +kernel
theorem dX10_lets_18 : decode cX10_lets 18 = .ok (.if_icmp .le 5, 3) := by decide +kernel
theorem dX10_lets_21 : decode cX10_lets 21 = .ok (.iconst (-1), 1) := by decide +kernel
theorem dX10_lets_22 : decode cX10_lets 22 = .ok (.ireturn, 1) := by decide +kernel
theorem dX10_lets_23 : decode cX10_lets 23 = .ok (.aload_n 0, 1) := by decide +kernel
theorem dX10_lets_24 : decode cX10_lets 24 = .ok (.getfield 14, 3) := by decide +kernel
theorem dX10_lets_27 : decode cX10_lets 27 = .ok (.iload_n 1, 1) := by decide +kernel
theorem dX10_lets_28 : decode cX10_lets 28 = .ok (.iload_n 2, 1) := by decide +kernel
theorem dX10_lets_29 : decode cX10_lets 29 = .ok (.invokevirtual 154, 3) := by decide +kernel
theorem dX10_lets_32 : decode cX10_lets 32 = .ok (.ifCond .eq 7, 3) := by decide +kernel
theorem dX10_lets_35 : decode cX10_lets 35 = .ok (.iconst 1, 1) := by decide +kernel
theorem dX10_lets_36 : decode cX10_lets 36 = .ok (.goto 4, 3) := by decide +kernel
theorem dX10_lets_39 : decode cX10_lets 39 = .ok (.iconst 0, 1) := by decide +kernel
theorem dX10_lets_40 : decode cX10_lets 40 = .ok (.ireturn, 1) := by decide +kernel
theorem dX10_undo_0 : decode cX10_undo 0 = .ok (.aload_n 0, 1) := by decide +kernel
theorem dX10_undo_1 : decode cX10_undo 1 = .ok (.getfield 24, 3) := by decide +kernel
theorem dX10_undo_4 : decode cX10_undo 4 = .ok (.aload_n 0, 1) := by decide +kernel
theorem dX10_undo_5 : decode cX10_undo 5 = .ok (.getfield 14, 3) := by decide +kernel
theorem dX10_undo_8 : decode cX10_undo 8 = .ok (.invokevirtual 157, 3) := by decide +kernel
theorem dX10_undo_11 : decode cX10_undo 11 = .ok (.ifCond .ne 6, 3) := by decide +kernel
theorem dX10_undo_14 : decode cX10_undo 14 = .ok (.bipush (-3), 2) := by decide +kernel
theorem dX10_undo_16 : decode cX10_undo 16 = .ok (.ireturn, 1) := by decide +kernel
theorem dX10_undo_17 : decode cX10_undo 17 = .ok (.aload_n 0, 1) := by decide +kernel
theorem dX10_undo_18 : decode cX10_undo 18 = .ok (.invokevirtual 110, 3) := by decide +kernel
theorem dX10_undo_21 : decode cX10_undo 21 = .ok (.aload_n 0, 1) := by decide +kernel
theorem dX10_undo_22 : decode cX10_undo 22 = .ok (.getfield 24, 3) := by decide +kernel
theorem dX10_undo_25 : decode cX10_undo 25 = .ok (.getfield 161, 3) := by decide +kernel
theorem dX10_undo_28 : decode cX10_undo 28 = .ok (.ireturn, 1) := by decide +kernel
theorem dX10_ways_0 : decode cX10_ways 0 = .ok (.iload_n 1, 1) := by decide +kernel
theorem dX10_ways_1 : decode cX10_ways 1 = .ok (.iload_n 2, 1) := by decide +kernel
theorem dX10_ways_2 : decode cX10_ways 2 = .ok (.bipush 60, 2) := by decide +kernel
theorem dX10_ways_4 : decode cX10_ways 4 = .ok (.invokestatic 164, 3) := by decide +kernel
theorem dX10_ways_7 : decode cX10_ways 7 = .ok (.ifCond .ne 7, 3) := by decide +kernel
theorem dX10_ways_10 : decode cX10_ways 10 = .ok (.ldc2_w 168, 3) := by decide +kernel
theorem dX10_ways_13 : decode cX10_ways 13 = .ok (.lreturn, 1) := by decide +kernel
theorem dX10_ways_14 : decode cX10_ways 14 = .ok (.aload_n 0, 1) := by decide +kernel
theorem dX10_ways_15 : decode cX10_ways 15 = .ok (.getfield 59, 3) := by decide +kernel
theorem dX10_ways_18 : decode cX10_ways 18 = .ok (.iload_n 1, 1) := by decide +kernel
theorem dX10_ways_19 : decode cX10_ways 19 = .ok (.iload_n 2, 1) := by decide +kernel
theorem dX10_ways_20 : decode cX10_ways 20 = .ok (.aload_n 0, 1) := by decide +kernel
theorem dX10_ways_21 : decode cX10_ways 21 = .ok (.getfield 14, 3) := by decide +kernel
theorem dX10_ways_24 : decode cX10_ways 24 = .ok (.invokevirtual 170, 3) := by decide +kernel
theorem dX10_ways_27 : decode cX10_ways 27 = .ok (.aload_n 0, 1) := by decide +kernel
theorem dX10_ways_28 : decode cX10_ways 28 = .ok (.getfield 59, 3) := by decide +kernel
theorem dX10_ways_31 : decode cX10_ways 31 = .ok (.iconst 0, 1) := by decide +kernel
theorem dX10_ways_32 : decode cX10_ways 32 = .ok (.iload_n 1, 1) := by decide +kernel
theorem dX10_ways_33 : decode cX10_ways 33 = .ok (.iload_n 2, 1) := by decide +kernel
theorem dX10_ways_34 : decode cX10_ways 34 = .ok (.invokevirtual 174, 3) := by decide +kernel
theorem dX10_ways_37 : decode cX10_ways 37 = .ok (.lreturn, 1) := by decide +kernel
theorem dX10_free_0 : decode cX10_free 0 = .ok (.iload_n 1, 1) := by decide +kernel
theorem dX10_free_1 : decode cX10_free 1 = .ok (.iload_n 2, 1) := by decide +kernel
theorem dX10_free_2 : decode cX10_free 2 = .ok (.bipush 60, 2) := by decide +kernel
theorem dX10_free_4 : decode cX10_free 4 = .ok (.invokestatic 164, 3) := by decide +kernel
theorem dX10_free_7 : decode cX10_free 7 = .ok (.ifCond .ne 7, 3) := by decide +kernel
theorem dX10_free_10 : decode cX10_free 10 = .ok (.ldc2_w 168, 3) := by decide +kernel
theorem dX10_free_13 : decode cX10_free 13 = .ok (.lreturn, 1) := by decide +kernel
theorem dX10_free_14 : decode cX10_free 14 = .ok (.aload_n 0, 1) := by decide +kernel
theorem dX10_free_15 : decode cX10_free 15 = .ok (.getfield 52, 3) := by decide +kernel
theorem dX10_free_18 : decode cX10_free 18 = .ok (.iload_n 1, 1) := by decide +kernel
theorem dX10_free_19 : decode cX10_free 19 = .ok (.iload_n 2, 1) := by decide +kernel
theorem dX10_free_20 : decode cX10_free 20 = .ok (.aload_n 0, 1) := by decide +kernel
theorem dX10_free_21 : decode cX10_free 21 = .ok (.getfield 14, 3) := by decide +kernel
theorem dX10_free_24 : decode cX10_free 24 = .ok (.invokevirtual 178, 3) := by decide +kernel
theorem dX10_free_27 : decode cX10_free 27 = .ok (.aload_n 0, 1) := by decide +kernel
theorem dX10_free_28 : decode cX10_free 28 = .ok (.getfield 52, 3) := by decide +kernel
theorem dX10_free_31 : decode cX10_free 31 = .ok (.iload_n 1, 1) := by decide +kernel
theorem dX10_free_32 : decode cX10_free 32 = .ok (.iload_n 2, 1) := by decide +kernel
theorem dX10_free_33 : decode cX10_free 33 = .ok (.invokevirtual 179, 3) := by decide +kernel
theorem dX10_free_36 : decode cX10_free 36 = .ok (.lreturn, 1) := by decide +kernel
theorem dX10_strict_0 : decode cX10_strict 0 = .ok (.iload_n 1, 1) := by decide +kernel
theorem dX10_strict_1 : decode cX10_strict 1 = .ok (.iload_n 2, 1) := by decide +kernel
theorem dX10_strict_2 : decode cX10_strict 2 = .ok (.bipush 60, 2) := by decide +kernel
theorem dX10_strict_4 : decode cX10_strict 4 = .ok (.invokestatic 164, 3) := by decide +kernel
theorem dX10_strict_7 : decode cX10_strict 7 = .ok (.ifCond .ne 7, 3) := by decide +kernel
theorem dX10_strict_10 : decode cX10_strict 10 = .ok (.ldc2_w 168, 3) := by decide +kernel
theorem dX10_strict_13 : decode cX10_strict 13 = .ok (.lreturn, 1) := by decide +kernel
theorem dX10_strict_14 : decode cX10_strict 14 = .ok (.aload_n 0, 1) := by decide +kernel
theorem dX10_strict_15 : decode cX10_strict 15 = .ok (.getfield 52, 3) := by decide +kernel
theorem dX10_strict_18 : decode cX10_strict 18 = .ok (.iload_n 1, 1) := by decide +kernel
theorem dX10_strict_19 : decode cX10_strict 19 = .ok (.iload_n 2, 1) := by decide +kernel
theorem dX10_strict_20 : decode cX10_strict 20 = .ok (.aload_n 0, 1) := by decide +kernel
theorem dX10_strict_21 : decode cX10_strict 21 = .ok (.getfield 14, 3) := by decide +kernel
theorem dX10_strict_24 : decode cX10_strict 24 = .ok (.invokevirtual 178, 3) := by decide +kernel
theorem dX10_strict_27 : decode cX10_strict 27 = .ok (.aload_n 0, 1) := by decide +kernel
theorem dX10_strict_28 : decode cX10_strict 28 = .ok (.getfield 52, 3) := by decide +kernel
theorem dX10_strict_31 : decode cX10_strict 31 = .ok (.iload_n 1, 1) := by decide +kernel
theorem dX10_strict_32 : decode cX10_strict 32 = .ok (.aload_n 0, 1) := by decide +kernel
theorem dX10_strict_33 : decode cX10_strict 33 = .ok (.getfield 14, 3) := by decide +kernel
theorem dX10_strict_36 : decode cX10_strict 36 = .ok (.invokevirtual 182, 3) := by decide +kernel
theorem dX10_strict_39 : decode cX10_strict 39 = .ok (.isub, 1) := by decide +kernel
theorem dX10_strict_40 : decode cX10_strict 40 = .ok (.iload_n 2, 1) := by decide +kernel
theorem dX10_strict_41 : decode cX10_strict 41 = .ok (.aload_n 0, 1) := by decide +kernel
theorem dX10_strict_42 : decode cX10_strict 42 = .ok (.getfield 14, 3) := by decide +kernel
theorem dX10_strict_45 : decode cX10_strict 45 = .ok (.invokevirtual 186, 3) := by decide +kernel
theorem dX10_strict_48 : decode cX10_strict 48 = .ok (.isub, 1) := by decide +kernel
theorem dX10_strict_49 : decode cX10_strict 49 = .ok (.invokevirtual 179, 3) := by decide +kernel
theorem dX10_strict_52 : decode cX10_strict 52 = .ok (.lreturn, 1) := by decide +kernel
theorem dX10_way_0 : decode cX10_way 0 = .ok (.iload_n 1, 1) := by decide +kernel
theorem dX10_way_1 : decode cX10_way 1 = .ok (.iload_n 2, 1) := by decide +kernel
theorem dX10_way_2 : decode cX10_way 2 = .ok (.bipush 60, 2) := by decide +kernel
theorem dX10_way_4 : decode cX10_way 4 = .ok (.invokestatic 164, 3) := by decide +kernel
theorem dX10_way_7 : decode cX10_way 7 = .ok (.ifCond .eq 19, 3) := by decide +kernel
theorem dX10_way_10 : decode cX10_way 10 = .ok (.iload_n 3, 1) := by decide +kernel
theorem dX10_way_11 : decode cX10_way 11 = .ok (.ifCond .lt 15, 3) := by decide +kernel
theorem dX10_way_14 : decode cX10_way 14 = .ok (.aload_n 0, 1) := by decide +kernel
theorem dX10_way_15 : decode cX10_way 15 = .ok (.getfield 14, 3) := by decide +kernel
theorem dX10_way_18 : decode cX10_way 18 = .ok (.iload 4, 2) := by decide +kernel
theorem dX10_way_20 : decode cX10_way 20 = .ok (.invokevirtual 113, 3) := by decide +kernel
theorem dX10_way_23 : decode cX10_way 23 = .ok (.ifCond .ne 5, 3) := by decide +kernel
theorem dX10_way_26 : decode cX10_way 26 = .ok (.iconst (-1), 1) := by decide +kernel
theorem dX10_way_27 : decode cX10_way 27 = .ok (.ireturn, 1) := by decide +kernel
theorem dX10_way_28 : decode cX10_way 28 = .ok (.aload_n 0, 1) := by decide +kernel
theorem dX10_way_29 : decode cX10_way 29 = .ok (.getfield 59, 3) := by decide +kernel
theorem dX10_way_32 : decode cX10_way 32 = .ok (.iload_n 1, 1) := by decide +kernel
theorem dX10_way_33 : decode cX10_way 33 = .ok (.iload_n 2, 1) := by decide +kernel
theorem dX10_way_34 : decode cX10_way 34 = .ok (.aload_n 0, 1) := by decide +kernel
theorem dX10_way_35 : decode cX10_way 35 = .ok (.getfield 14, 3) := by decide +kernel
theorem dX10_way_38 : decode cX10_way 38 = .ok (.invokevirtual 170, 3) := by decide +kernel
theorem dX10_way_41 : decode cX10_way 41 = .ok (.iload_n 3, 1) := by decide +kernel
theorem dX10_way_42 : decode cX10_way 42 = .ok (.i2l, 1) := by decide +kernel
theorem dX10_way_43 : decode cX10_way 43 = .ok (.aload_n 0, 1) := by decide +kernel
theorem dX10_way_44 : decode cX10_way 44 = .ok (.getfield 59, 3) := by decide +kernel
theorem dX10_way_47 : decode cX10_way 47 = .ok (.iconst 0, 1) := by decide +kernel
theorem dX10_way_48 : decode cX10_way 48 = .ok (.iload_n 1, 1) := by decide +kernel
theorem dX10_way_49 : decode cX10_way 49 = .ok (.iload_n 2, 1) := by decide +kernel
theorem dX10_way_50 : decode cX10_way 50 = .ok (.invokevirtual 174, 3) := by decide +kernel
theorem dX10_way_53 : decode cX10_way 53 = .ok (.lcmp, 1) := by decide +kernel
theorem dX10_way_54 : decode cX10_way 54 = .ok (.ifCond .lt 6, 3) := by decide +kernel
theorem dX10_way_57 : decode cX10_way 57 = .ok (.bipush (-3), 2) := by decide +kernel
theorem dX10_way_59 : decode cX10_way 59 = .ok (.ireturn, 1) := by decide +kernel
theorem dX10_way_60 : decode cX10_way 60 = .ok (.aload_n 0, 1) := by decide +kernel
theorem dX10_way_61 : decode cX10_way 61 = .ok (.getfield 59, 3) := by decide +kernel
theorem dX10_way_64 : decode cX10_way 64 = .ok (.iload_n 1, 1) := by decide +kernel
theorem dX10_way_65 : decode cX10_way 65 = .ok (.iload_n 2, 1) := by decide +kernel
theorem dX10_way_66 : decode cX10_way 66 = .ok (.iload_n 3, 1) := by decide +kernel
theorem dX10_way_67 : decode cX10_way 67 = .ok (.iload 4, 2) := by decide +kernel
theorem dX10_way_69 : decode cX10_way 69 = .ok (.aload_n 0, 1) := by decide +kernel
theorem dX10_way_70 : decode cX10_way 70 = .ok (.getfield 14, 3) := by decide +kernel
theorem dX10_way_73 : decode cX10_way 73 = .ok (.invokevirtual 189, 3) := by decide +kernel
theorem dX10_way_76 : decode cX10_way 76 = .ok (.ireturn, 1) := by decide +kernel
theorem dX10_fold_0 : decode cX10_fold 0 = .ok (.iload_n 1, 1) := by decide +kernel
theorem dX10_fold_1 : decode cX10_fold 1 = .ok (.ifCond .lt 18, 3) := by decide +kernel
theorem dX10_fold_4 : decode cX10_fold 4 = .ok (.iload_n 1, 1) := by decide +kernel
theorem dX10_fold_5 : decode cX10_fold 5 = .ok (.iconst 3, 1) := by decide +kernel
theorem dX10_fold_6 : decode cX10_fold 6 = .ok (.if_icmp .gt 13, 3) := by decide +kernel
theorem dX10_fold_9 : decode cX10_fold 9 = .ok (.iload_n 2, 1) := by decide +kernel
theorem dX10_fold_10 : decode cX10_fold 10 = .ok (.iload_n 3, 1) := by decide +kernel
theorem dX10_fold_11 : decode cX10_fold 11 = .ok (.bipush 30, 2) := by decide +kernel
theorem dX10_fold_13 : decode cX10_fold 13 = .ok (.invokestatic 164, 3) := by decide +kernel
theorem dX10_fold_16 : decode cX10_fold 16 = .ok (.ifCond .ne 7, 3) := by decide +kernel
theorem dX10_fold_19 : decode cX10_fold 19 = .ok (.ldc2_w 168, 3) := by decide +kernel
theorem dX10_fold_22 : decode cX10_fold 22 = .ok (.lreturn, 1) := by decide +kernel
theorem dX10_fold_23 : decode cX10_fold 23 = .ok (.aload_n 0, 1) := by decide +kernel
theorem dX10_fold_24 : decode cX10_fold 24 = .ok (.getfield 66, 3) := by decide +kernel
theorem dX10_fold_27 : decode cX10_fold 27 = .ok (.iload_n 1, 1) := by decide +kernel
theorem dX10_fold_28 : decode cX10_fold 28 = .ok (.iload_n 2, 1) := by decide +kernel
theorem dX10_fold_29 : decode cX10_fold 29 = .ok (.iload_n 3, 1) := by decide +kernel
theorem dX10_fold_30 : decode cX10_fold 30 = .ok (.aload_n 0, 1) := by decide +kernel
theorem dX10_fold_31 : decode cX10_fold 31 = .ok (.getfield 14, 3) := by decide +kernel
theorem dX10_fold_34 : decode cX10_fold 34 = .ok (.invokevirtual 193, 3) := by decide +kernel
theorem dX10_fold_37 : decode cX10_fold 37 = .ok (.lstore 4, 2) := by decide +kernel
theorem dX10_fold_39 : decode cX10_fold 39 = .ok (.iload_n 1, 1) := by decide +kernel
theorem dX10_fold_40 : decode cX10_fold 40 = .ok (.ifCond .ne 16, 3) := by decide +kernel
theorem dX10_fold_43 : decode cX10_fold 43 = .ok (.lload 4, 2) := by decide +kernel
theorem dX10_fold_45 : decode cX10_fold 45 = .ok (.ldc2_w 197, 3) := by decide +kernel
theorem dX10_fold_48 : decode cX10_fold 48 = .ok (.lcmp, 1) := by decide +kernel
theorem dX10_fold_49 : decode cX10_fold 49 = .ok (.ifCond .ne 7, 3) := by decide +kernel
theorem dX10_fold_52 : decode cX10_fold 52 = .ok (.lconst 0, 1) := by decide +kernel
theorem dX10_fold_53 : decode cX10_fold 53 = .ok (.goto 5, 3) := by decide +kernel
theorem dX10_fold_56 : decode cX10_fold 56 = .ok (.lload 4, 2) := by decide +kernel
theorem dX10_fold_58 : decode cX10_fold 58 = .ok (.lreturn, 1) := by decide +kernel
theorem dX10_ray_0 : decode cX10_ray 0 = .ok (.aload_n 0, 1) := by decide +kernel
theorem dX10_ray_1 : decode cX10_ray 1 = .ok (.getfield 45, 3) := by decide +kernel
theorem dX10_ray_4 : decode cX10_ray 4 = .ok (.iload_n 1, 1) := by decide +kernel
theorem dX10_ray_5 : decode cX10_ray 5 = .ok (.invokevirtual 199, 3) := by decide +kernel
theorem dX10_ray_8 : decode cX10_ray 8 = .ok (.ifCond .ne 5, 3) := by decide +kernel
theorem dX10_ray_11 : decode cX10_ray 11 = .ok (.iconst (-1), 1) := by decide +kernel
theorem dX10_ray_12 : decode cX10_ray 12 = .ok (.ireturn, 1) := by decide +kernel
theorem dX10_ray_13 : decode cX10_ray 13 = .ok (.iload_n 2, 1) := by decide +kernel
theorem dX10_ray_14 : decode cX10_ray 14 = .ok (.tableswitch 56 0 2 #[26, 36, 46], 26) := by decide +kernel
theorem dX10_ray_40 : decode cX10_ray 40 = .ok (.aload_n 0, 1) := by decide +kernel
theorem dX10_ray_41 : decode cX10_ray 41 = .ok (.getfield 45, 3) := by decide +kernel
theorem dX10_ray_44 : decode cX10_ray 44 = .ok (.getfield 202, 3) := by decide +kernel
theorem dX10_ray_47 : decode cX10_ray 47 = .ok (.iload_n 1, 1) := by decide +kernel
theorem dX10_ray_48 : decode cX10_ray 48 = .ok (.iaload, 1) := by decide +kernel
theorem dX10_ray_49 : decode cX10_ray 49 = .ok (.ireturn, 1) := by decide +kernel
theorem dX10_ray_50 : decode cX10_ray 50 = .ok (.aload_n 0, 1) := by decide +kernel
theorem dX10_ray_51 : decode cX10_ray 51 = .ok (.getfield 45, 3) := by decide +kernel
theorem dX10_ray_54 : decode cX10_ray 54 = .ok (.getfield 203, 3) := by decide +kernel
theorem dX10_ray_57 : decode cX10_ray 57 = .ok (.iload_n 1, 1) := by decide +kernel
theorem dX10_ray_58 : decode cX10_ray 58 = .ok (.iaload, 1) := by decide +kernel
theorem dX10_ray_59 : decode cX10_ray 59 = .ok (.ireturn, 1) := by decide +kernel
theorem dX10_ray_60 : decode cX10_ray 60 = .ok (.aload_n 0, 1) := by decide +kernel
theorem dX10_ray_61 : decode cX10_ray 61 = .ok (.getfield 45, 3) := by decide +kernel
theorem dX10_ray_64 : decode cX10_ray 64 = .ok (.getfield 204, 3) := by decide +kernel
theorem dX10_ray_67 : decode cX10_ray 67 = .ok (.iload_n 1, 1) := by decide +kernel
theorem dX10_ray_68 : decode cX10_ray 68 = .ok (.iaload, 1) := by decide +kernel
theorem dX10_ray_69 : decode cX10_ray 69 = .ok (.ireturn, 1) := by decide +kernel
theorem dX10_ray_70 : decode cX10_ray 70 = .ok (.iconst (-1), 1) := by decide +kernel
theorem dX10_ray_71 : decode cX10_ray 71 = .ok (.ireturn, 1) := by decide +kernel
theorem dX10_period_0 : decode cX10_period 0 = .ok (.aload_n 0, 1) := by decide +kernel
theorem dX10_period_1 : decode cX10_period 1 = .ok (.getfield 45, 3) := by decide +kernel
theorem dX10_period_4 : decode cX10_period 4 = .ok (.getfield 207, 3) := by decide +kernel
theorem dX10_period_7 : decode cX10_period 7 = .ok (.ireturn, 1) := by decide +kernel
theorem dX10_unit_0 : decode cX10_unit 0 = .ok (.aload_n 0, 1) := by decide +kernel
theorem dX10_unit_1 : decode cX10_unit 1 = .ok (.getfield 45, 3) := by decide +kernel
theorem dX10_unit_4 : decode cX10_unit 4 = .ok (.getfield 207, 3) := by decide +kernel
theorem dX10_unit_7 : decode cX10_unit 7 = .ok (.iconst 1, 1) := by decide +kernel
theorem dX10_unit_8 : decode cX10_unit 8 = .ok (.if_icmp .ne 7, 3) := by decide +kernel
theorem dX10_unit_11 : decode cX10_unit 11 = .ok (.iconst 1, 1) := by decide +kernel
theorem dX10_unit_12 : decode cX10_unit 12 = .ok (.goto 4, 3) := by decide +kernel
theorem dX10_unit_15 : decode cX10_unit 15 = .ok (.iconst 0, 1) := by decide +kernel
theorem dX10_unit_16 : decode cX10_unit 16 = .ok (.ireturn, 1) := by decide +kernel
theorem dX10_chamberOf_0 : decode cX10_chamberOf 0 = .ok (.iload_n 1, 1) := by decide +kernel
theorem dX10_chamberOf_1 : decode cX10_chamberOf 1 = .ok (.iload_n 2, 1) := by decide +kernel
theorem dX10_chamberOf_2 : decode cX10_chamberOf 2 = .ok (.invokestatic 210, 3) := by decide +kernel
theorem dX10_chamberOf_5 : decode cX10_chamberOf 5 = .ok (.ifCond .ne 5, 3) := by decide +kernel
theorem dX10_chamberOf_8 : decode cX10_chamberOf 8 = .ok (.iconst (-1), 1) := by decide +kernel
theorem dX10_chamberOf_9 : decode cX10_chamberOf 9 = .ok (.ireturn, 1) := by decide +kernel
theorem dX10_chamberOf_10 : decode cX10_chamberOf 10 = .ok (.iconst 0, 1) := by decide +kernel
theorem dX10_chamberOf_11 : decode cX10_chamberOf 11 = .ok (.istore_n 3, 1) := by decide +kernel
theorem dX10_chamberOf_12 : decode cX10_chamberOf 12 = .ok (.iload_n 3, 1) := by decide +kernel
theorem dX10_chamberOf_13 : decode cX10_chamberOf 13 = .ok (.aload_n 0, 1) := by decide +kernel
theorem dX10_chamberOf_14 : decode cX10_chamberOf 14 = .ok (.getfield 45, 3) := by decide +kernel
theorem dX10_chamberOf_17 : decode cX10_chamberOf 17 = .ok (.invokevirtual 213, 3) := by decide +kernel
theorem dX10_chamberOf_20 : decode cX10_chamberOf 20 = .ok (.if_icmp .ge 37, 3) := by decide +kernel
theorem dX10_chamberOf_23 : decode cX10_chamberOf 23 = .ok (.aload_n 0, 1) := by decide +kernel
theorem dX10_chamberOf_24 : decode cX10_chamberOf 24 = .ok (.getfield 45, 3) := by decide +kernel
theorem dX10_chamberOf_27 : decode cX10_chamberOf 27 = .ok (.iload_n 3, 1) := by decide +kernel
theorem dX10_chamberOf_28 : decode cX10_chamberOf 28 = .ok (.iload_n 1, 1) := by decide +kernel
theorem dX10_chamberOf_29 : decode cX10_chamberOf 29 = .ok (.iload_n 2, 1) := by decide +kernel
theorem dX10_chamberOf_30 : decode cX10_chamberOf 30 = .ok (.invokevirtual 216, 3) := by decide +kernel
theorem dX10_chamberOf_33 : decode cX10_chamberOf 33 = .ok (.ifCond .lt 18, 3) := by decide +kernel
theorem dX10_chamberOf_36 : decode cX10_chamberOf 36 = .ok (.aload_n 0, 1) := by decide +kernel
theorem dX10_chamberOf_37 : decode cX10_chamberOf 37 = .ok (.getfield 45, 3) := by decide +kernel
theorem dX10_chamberOf_40 : decode cX10_chamberOf 40 = .ok (.iload_n 3, 1) := by decide +kernel
theorem dX10_chamberOf_41 : decode cX10_chamberOf 41 = .ok (.iload_n 1, 1) := by decide +kernel
theorem dX10_chamberOf_42 : decode cX10_chamberOf 42 = .ok (.iload_n 2, 1) := by decide +kernel
theorem dX10_chamberOf_43 : decode cX10_chamberOf 43 = .ok (.invokevirtual 220, 3) := by decide +kernel
theorem dX10_chamberOf_46 : decode cX10_chamberOf 46 = .ok (.ifCond .lt 5, 3) := by decide +kernel
theorem dX10_chamberOf_49 : decode cX10_chamberOf 49 = .ok (.iload_n 3, 1) := by decide +kernel
theorem dX10_chamberOf_50 : decode cX10_chamberOf 50 = .ok (.ireturn, 1) := by decide +kernel
theorem dX10_chamberOf_51 : decode cX10_chamberOf 51 = .ok (.iinc 3 1, 3) := by decide +kernel
theorem dX10_chamberOf_54 : decode cX10_chamberOf 54 = .ok (.goto (-42), 3) := by decide +kernel
theorem dX10_chamberOf_57 : decode cX10_chamberOf 57 = .ok (.bipush (-3), 2) := by decide +kernel
theorem dX10_chamberOf_59 : decode cX10_chamberOf 59 = .ok (.ireturn, 1) := by decide +kernel
theorem dX10_home_0 : decode cX10_home 0 = .ok (.aload_n 0, 1) := by decide +kernel
theorem dX10_home_1 : decode cX10_home 1 = .ok (.iload_n 1, 1) := by decide +kernel
theorem dX10_home_2 : decode cX10_home 2 = .ok (.invokevirtual 223, 3) := by decide +kernel
theorem dX10_home_5 : decode cX10_home 5 = .ok (.ifCond .eq 11, 3) := by decide +kernel
theorem dX10_home_8 : decode cX10_home 8 = .ok (.iload_n 2, 1) := by decide +kernel
theorem dX10_home_9 : decode cX10_home 9 = .ok (.iload_n 3, 1) := by decide +kernel
theorem dX10_home_10 : decode cX10_home 10 = .ok (.invokestatic 210, 3) := by decide +kernel
theorem dX10_home_13 : decode cX10_home 13 = .ok (.ifCond .ne 5, 3) := by decide +kernel
theorem dX10_home_16 : decode cX10_home 16 = .ok (.iconst (-1), 1) := by decide +kernel
theorem dX10_home_17 : decode cX10_home 17 = .ok (.ireturn, 1) := by decide +kernel
theorem dX10_home_18 : decode cX10_home 18 = .ok (.aload_n 0, 1) := by decide +kernel
theorem dX10_home_19 : decode cX10_home 19 = .ok (.getfield 73, 3) := by decide +kernel
theorem dX10_home_22 : decode cX10_home 22 = .ok (.aload_n 0, 1) := by decide +kernel
theorem dX10_home_23 : decode cX10_home 23 = .ok (.getfield 45, 3) := by decide +kernel
theorem dX10_home_26 : decode cX10_home 26 = .ok (.iload_n 1, 1) := by decide +kernel
theorem dX10_home_27 : decode cX10_home 27 = .ok (.iload_n 2, 1) := by decide +kernel
theorem dX10_home_28 : decode cX10_home 28 = .ok (.iload_n 3, 1) := by decide +kernel
theorem dX10_home_29 : decode cX10_home 29 = .ok (.invokevirtual 226, 3) := by decide +kernel
theorem dX10_home_32 : decode cX10_home 32 = .ok (.iload 4, 2) := by decide +kernel
theorem dX10_home_34 : decode cX10_home 34 = .ok (.tableswitch 70 0 3 #[30, 38, 46, 58], 30) := by decide +kernel
theorem dX10_home_64 : decode cX10_home 64 = .ok (.aload_n 0, 1) := by decide +kernel
theorem dX10_home_65 : decode cX10_home 65 = .ok (.getfield 73, 3) := by decide +kernel
theorem dX10_home_68 : decode cX10_home 68 = .ok (.getfield 230, 3) := by decide +kernel
theorem dX10_home_71 : decode cX10_home 71 = .ok (.ireturn, 1) := by decide +kernel
theorem dX10_home_72 : decode cX10_home 72 = .ok (.aload_n 0, 1) := by decide +kernel
theorem dX10_home_73 : decode cX10_home 73 = .ok (.getfield 73, 3) := by decide +kernel
theorem dX10_home_76 : decode cX10_home 76 = .ok (.getfield 233, 3) := by decide +kernel
theorem dX10_home_79 : decode cX10_home 79 = .ok (.ireturn, 1) := by decide +kernel
theorem dX10_home_80 : decode cX10_home 80 = .ok (.sipush 1000, 3) := by decide +kernel
theorem dX10_home_83 : decode cX10_home 83 = .ok (.aload_n 0, 1) := by decide +kernel
theorem dX10_home_84 : decode cX10_home 84 = .ok (.getfield 73, 3) := by decide +kernel
theorem dX10_home_87 : decode cX10_home 87 = .ok (.getfield 236, 3) := by decide +kernel
theorem dX10_home_90 : decode cX10_home 90 = .ok (.iadd, 1) := by decide +kernel
theorem dX10_home_91 : decode cX10_home 91 = .ok (.ireturn, 1) := by decide +kernel
theorem dX10_home_92 : decode cX10_home 92 = .ok (.sipush 1000, 3) := by decide +kernel
theorem dX10_home_95 : decode cX10_home 95 = .ok (.aload_n 0, 1) := by decide +kernel
theorem dX10_home_96 : decode cX10_home 96 = .ok (.getfield 73, 3) := by decide +kernel
theorem dX10_home_99 : decode cX10_home 99 = .ok (.getfield 239, 3) := by decide +kernel
theorem dX10_home_102 : decode cX10_home 102 = .ok (.iadd, 1) := by decide +kernel
theorem dX10_home_103 : decode cX10_home 103 = .ok (.ireturn, 1) := by decide +kernel
theorem dX10_home_104 : decode cX10_home 104 = .ok (.iconst (-1), 1) := by decide +kernel
theorem dX10_home_105 : decode cX10_home 105 = .ok (.ireturn, 1) := by decide +kernel
theorem dX10_difference_0 : decode cX10_difference 0 = .ok (.aload_n 0, 1) := by decide +kernel
theorem dX10_difference_1 : decode cX10_difference 1 = .ok (.iload_n 1, 1) := by decide +kernel
theorem dX10_difference_2 : decode cX10_difference 2 = .ok (.invokevirtual 223, 3) := by decide +kernel
theorem dX10_difference_5 : decode cX10_difference 5 = .ok (.ifCond .eq 11, 3) := by decide +kernel
theorem dX10_difference_8 : decode cX10_difference 8 = .ok (.iload_n 2, 1) := by decide +kernel
theorem dX10_difference_9 : decode cX10_difference 9 = .ok (.iload_n 3, 1) := by decide +kernel
theorem dX10_difference_10 : decode cX10_difference 10 = .ok (.invokestatic 210, 3) := by decide +kernel
theorem dX10_difference_13 : decode cX10_difference 13 = .ok (.ifCond .ne 7, 3) := by decide +kernel
theorem dX10_difference_16 : decode cX10_difference 16 = .ok (.ldc2_w 168, 3) := by decide +kernel
theorem dX10_difference_19 : decode cX10_difference 19 = .ok (.lreturn, 1) := by decide +kernel
theorem dX10_difference_20 : decode cX10_difference 20 = .ok (.aload_n 0, 1) := by decide +kernel
theorem dX10_difference_21 : decode cX10_difference 21 = .ok (.getfield 14, 3) := by decide +kernel
theorem dX10_difference_24 : decode cX10_difference 24 = .ok (.getfield 103, 3) := by decide +kernel
theorem dX10_difference_27 : decode cX10_difference 27 = .ok (.iconst 2, 1) := by decide +kernel
theorem dX10_difference_28 : decode cX10_difference 28 = .ok (.isub, 1) := by decide +kernel
theorem dX10_difference_29 : decode cX10_difference 29 = .ok (.istore 6, 2) := by decide +kernel
theorem dX10_difference_31 : decode cX10_difference 31 = .ok (.iload 4, 2) := by decide +kernel
theorem dX10_difference_33 : decode cX10_difference 33 = .ok (.ifCond .lt 25, 3) := by decide +kernel
theorem dX10_difference_36 : decode cX10_difference 36 = .ok (.iload 5, 2) := by decide +kernel
theorem dX10_difference_38 : decode cX10_difference 38 = .ok (.ifCond .lt 20, 3) := by decide +kernel
theorem dX10_difference_41 : decode cX10_difference 41 = .ok (.iload 5, 2) := by decide +kernel
theorem dX10_difference_43 : decode cX10_difference 43 = .ok (.iload 6, 2) := by decide +kernel
theorem dX10_difference_45 : decode cX10_difference 45 = .ok (.if_icmp .gt 13, 3) := by decide +kernel
theorem dX10_difference_48 : decode cX10_difference 48 = .ok (.iload 4, 2) := by decide +kernel
theorem dX10_difference_50 : decode cX10_difference 50 = .ok (.iload 6, 2) := by decide +kernel
theorem dX10_difference_52 : decode cX10_difference 52 = .ok (.iload 5, 2) := by decide +kernel
theorem dX10_difference_54 : decode cX10_difference 54 = .ok (.isub, 1) := by decide +kernel
theorem dX10_difference_55 : decode cX10_difference 55 = .ok (.if_icmp .le 7, 3) := by decide +kernel
theorem dX10_difference_58 : decode cX10_difference 58 = .ok (.ldc2_w 168, 3) := by decide +kernel
theorem dX10_difference_61 : decode cX10_difference 61 = .ok (.lreturn, 1) := by decide +kernel
theorem dX10_difference_62 : decode cX10_difference 62 = .ok (.aload_n 0, 1) := by decide +kernel
theorem dX10_difference_63 : decode cX10_difference 63 = .ok (.iload_n 1, 1) := by decide +kernel
theorem dX10_difference_64 : decode cX10_difference 64 = .ok (.iload_n 2, 1) := by decide +kernel
theorem dX10_difference_65 : decode cX10_difference 65 = .ok (.iload_n 3, 1) := by decide +kernel
theorem dX10_difference_66 : decode cX10_difference 66 = .ok (.invokevirtual 242, 3) := by decide +kernel
theorem dX10_difference_69 : decode cX10_difference 69 = .ok (.aload_n 0, 1) := by decide +kernel
theorem dX10_difference_70 : decode cX10_difference 70 = .ok (.getfield 73, 3) := by decide +kernel
theorem dX10_difference_73 : decode cX10_difference 73 = .ok (.iload 6, 2) := by decide +kernel
theorem dX10_difference_75 : decode cX10_difference 75 = .ok (.aload_n 0, 1) := by decide +kernel
theorem dX10_difference_76 : decode cX10_difference 76 = .ok (.getfield 52, 3) := by decide +kernel
theorem dX10_difference_79 : decode cX10_difference 79 = .ok (.invokevirtual 246, 3) := by decide +kernel
theorem dX10_difference_82 : decode cX10_difference 82 = .ok (.aload_n 0, 1) := by decide +kernel
theorem dX10_difference_83 : decode cX10_difference 83 = .ok (.getfield 73, 3) := by decide +kernel
theorem dX10_difference_86 : decode cX10_difference 86 = .ok (.iload 4, 2) := by decide +kernel
theorem dX10_difference_88 : decode cX10_difference 88 = .ok (.iload 5, 2) := by decide +kernel
theorem dX10_difference_90 : decode cX10_difference 90 = .ok (.invokevirtual 250, 3) := by decide +kernel
theorem dX10_difference_93 : decode cX10_difference 93 = .ok (.lreturn, 1) := by decide +kernel
theorem dX10_formula_0 : decode cX10_formula 0 = .ok (.aload_n 0, 1) := by decide +kernel
theorem dX10_formula_1 : decode cX10_formula 1 = .ok (.iload_n 1, 1) := by decide +kernel
theorem dX10_formula_2 : decode cX10_formula 2 = .ok (.invokevirtual 223, 3) := by decide +kernel
theorem dX10_formula_5 : decode cX10_formula 5 = .ok (.ifCond .eq 11, 3) := by decide +kernel
theorem dX10_formula_8 : decode cX10_formula 8 = .ok (.iload_n 2, 1) := by decide +kernel
theorem dX10_formula_9 : decode cX10_formula 9 = .ok (.iload_n 3, 1) := by decide +kernel
theorem dX10_formula_10 : decode cX10_formula 10 = .ok (.invokestatic 210, 3) := by decide +kernel
theorem dX10_formula_13 : decode cX10_formula 13 = .ok (.ifCond .ne 7, 3) := by decide +kernel
theorem dX10_formula_16 : decode cX10_formula 16 = .ok (.ldc2_w 168, 3) := by decide +kernel
theorem dX10_formula_19 : decode cX10_formula 19 = .ok (.lreturn, 1) := by decide +kernel
theorem dX10_formula_20 : decode cX10_formula 20 = .ok (.aload_n 0, 1) := by decide +kernel
theorem dX10_formula_21 : decode cX10_formula 21 = .ok (.iload_n 1, 1) := by decide +kernel
theorem dX10_formula_22 : decode cX10_formula 22 = .ok (.iload_n 2, 1) := by decide +kernel
theorem dX10_formula_23 : decode cX10_formula 23 = .ok (.iload_n 3, 1) := by decide +kernel
theorem dX10_formula_24 : decode cX10_formula 24 = .ok (.invokevirtual 242, 3) := by decide +kernel
theorem dX10_formula_27 : decode cX10_formula 27 = .ok (.aload_n 0, 1) := by decide +kernel
theorem dX10_formula_28 : decode cX10_formula 28 = .ok (.getfield 73, 3) := by decide +kernel
theorem dX10_formula_31 : decode cX10_formula 31 = .ok (.aload_n 0, 1) := by decide +kernel
theorem dX10_formula_32 : decode cX10_formula 32 = .ok (.getfield 14, 3) := by decide +kernel
theorem dX10_formula_35 : decode cX10_formula 35 = .ok (.getfield 103, 3) := by decide +kernel
theorem dX10_formula_38 : decode cX10_formula 38 = .ok (.iconst 2, 1) := by decide +kernel
theorem dX10_formula_39 : decode cX10_formula 39 = .ok (.isub, 1) := by decide +kernel
theorem dX10_formula_40 : decode cX10_formula 40 = .ok (.aload_n 0, 1) := by decide +kernel
theorem dX10_formula_41 : decode cX10_formula 41 = .ok (.getfield 52, 3) := by decide +kernel
theorem dX10_formula_44 : decode cX10_formula 44 = .ok (.invokevirtual 253, 3) := by decide +kernel
theorem dX10_formula_47 : decode cX10_formula 47 = .ok (.lreturn, 1) := by decide +kernel
theorem dX10_agrees_0 : decode cX10_agrees 0 = .ok (.aload_n 0, 1) := by decide +kernel
theorem dX10_agrees_1 : decode cX10_agrees 1 = .ok (.iload_n 1, 1) := by decide +kernel
theorem dX10_agrees_2 : decode cX10_agrees 2 = .ok (.invokevirtual 223, 3) := by decide +kernel
theorem dX10_agrees_5 : decode cX10_agrees 5 = .ok (.ifCond .eq 13, 3) := by decide +kernel
theorem dX10_agrees_8 : decode cX10_agrees 8 = .ok (.iload_n 2, 1) := by decide +kernel
theorem dX10_agrees_9 : decode cX10_agrees 9 = .ok (.ifCond .lt 9, 3) := by decide +kernel
theorem dX10_agrees_12 : decode cX10_agrees 12 = .ok (.iload_n 2, 1) := by decide +kernel
theorem dX10_agrees_13 : decode cX10_agrees 13 = .ok (.bipush 30, 2) := by decide +kernel
theorem dX10_agrees_15 : decode cX10_agrees 15 = .ok (.if_icmp .le 5, 3) := by decide +kernel
theorem dX10_agrees_18 : decode cX10_agrees 18 = .ok (.iconst (-1), 1) := by decide +kernel
theorem dX10_agrees_19 : decode cX10_agrees 19 = .ok (.ireturn, 1) := by decide +kernel
theorem dX10_agrees_20 : decode cX10_agrees 20 = .ok (.aload_n 0, 1) := by decide +kernel
theorem dX10_agrees_21 : decode cX10_agrees 21 = .ok (.iload_n 1, 1) := by decide +kernel
theorem dX10_agrees_22 : decode cX10_agrees 22 = .ok (.iload_n 2, 1) := by decide +kernel
theorem dX10_agrees_23 : decode cX10_agrees 23 = .ok (.iload_n 2, 1) := by decide +kernel
theorem dX10_agrees_24 : decode cX10_agrees 24 = .ok (.invokevirtual 242, 3) := by decide +kernel
theorem dX10_agrees_27 : decode cX10_agrees 27 = .ok (.aload_n 0, 1) := by decide +kernel
theorem dX10_agrees_28 : decode cX10_agrees 28 = .ok (.getfield 52, 3) := by decide +kernel
theorem dX10_agrees_31 : decode cX10_agrees 31 = .ok (.iload_n 2, 1) := by decide +kernel
theorem dX10_agrees_32 : decode cX10_agrees 32 = .ok (.iload_n 2, 1) := by decide +kernel
theorem dX10_agrees_33 : decode cX10_agrees 33 = .ok (.aload_n 0, 1) := by decide +kernel
theorem dX10_agrees_34 : decode cX10_agrees 34 = .ok (.getfield 14, 3) := by decide +kernel
theorem dX10_agrees_37 : decode cX10_agrees 37 = .ok (.invokevirtual 178, 3) := by decide +kernel
theorem dX10_agrees_40 : decode cX10_agrees 40 = .ok (.iconst 0, 1) := by decide +kernel
theorem dX10_agrees_41 : decode cX10_agrees 41 = .ok (.istore_n 3, 1) := by decide +kernel
theorem dX10_agrees_42 : decode cX10_agrees 42 = .ok (.iconst 0, 1) := by decide +kernel
theorem dX10_agrees_43 : decode cX10_agrees 43 = .ok (.istore 4, 2) := by decide +kernel
theorem dX10_agrees_45 : decode cX10_agrees 45 = .ok (.iload 4, 2) := by decide +kernel
theorem dX10_agrees_47 : decode cX10_agrees 47 = .ok (.iload_n 2, 1) := by decide +kernel
theorem dX10_agrees_48 : decode cX10_agrees 48 = .ok (.if_icmp .gt 78, 3) := by decide +kernel
theorem dX10_agrees_51 : decode cX10_agrees 51 = .ok (.iconst 0, 1) := by decide +kernel
theorem dX10_agrees_52 : decode cX10_agrees 52 = .ok (.istore 5, 2) := by decide +kernel
theorem dX10_agrees_54 : decode cX10_agrees 54 = .ok (.iload 5, 2) := by decide +kernel
theorem dX10_agrees_56 : decode cX10_agrees 56 = .ok (.iload_n 2, 1) := by decide +kernel
theorem dX10_agrees_57 : decode cX10_agrees 57 = .ok (.if_icmp .gt 63, 3) := by decide +kernel
theorem dX10_agrees_60 : decode cX10_agrees 60 = .ok (.aload_n 0, 1) := by decide +kernel
theorem dX10_agrees_61 : decode cX10_agrees 61 = .ok (.getfield 73, 3) := by decide +kernel
theorem dX10_agrees_64 : decode cX10_agrees 64 = .ok (.aload_n 0, 1) := by decide +kernel
theorem dX10_agrees_65 : decode cX10_agrees 65 = .ok (.getfield 45, 3) := by decide +kernel
theorem dX10_agrees_68 : decode cX10_agrees 68 = .ok (.iload_n 1, 1) := by decide +kernel
theorem dX10_agrees_69 : decode cX10_agrees 69 = .ok (.iload 4, 2) := by decide +kernel
theorem dX10_agrees_71 : decode cX10_agrees 71 = .ok (.iload 5, 2) := by decide +kernel
theorem dX10_agrees_73 : decode cX10_agrees 73 = .ok (.invokevirtual 226, 3) := by decide +kernel
theorem dX10_agrees_76 : decode cX10_agrees 76 = .ok (.aload_n 0, 1) := by decide +kernel
theorem dX10_agrees_77 : decode cX10_agrees 77 = .ok (.getfield 73, 3) := by decide +kernel
theorem dX10_agrees_80 : decode cX10_agrees 80 = .ok (.aload_n 0, 1) := by decide +kernel
theorem dX10_agrees_81 : decode cX10_agrees 81 = .ok (.getfield 14, 3) := by decide +kernel
theorem dX10_agrees_84 : decode cX10_agrees 84 = .ok (.getfield 103, 3) := by decide +kernel
theorem dX10_agrees_87 : decode cX10_agrees 87 = .ok (.iconst 2, 1) := by decide +kernel
theorem dX10_agrees_88 : decode cX10_agrees 88 = .ok (.isub, 1) := by decide +kernel
theorem dX10_agrees_89 : decode cX10_agrees 89 = .ok (.aload_n 0, 1) := by decide +kernel
theorem dX10_agrees_90 : decode cX10_agrees 90 = .ok (.getfield 52, 3) := by decide +kernel
theorem dX10_agrees_93 : decode cX10_agrees 93 = .ok (.invokevirtual 253, 3) := by decide +kernel
theorem dX10_agrees_96 : decode cX10_agrees 96 = .ok (.aload_n 0, 1) := by decide +kernel
theorem dX10_agrees_97 : decode cX10_agrees 97 = .ok (.getfield 52, 3) := by decide +kernel
theorem dX10_agrees_100 : decode cX10_agrees 100 = .ok (.iload 4, 2) := by decide +kernel
theorem dX10_agrees_102 : decode cX10_agrees 102 = .ok (.iload 5, 2) := by decide +kernel
theorem dX10_agrees_104 : decode cX10_agrees 104 = .ok (.invokevirtual 179, 3) := by decide +kernel
theorem dX10_agrees_107 : decode cX10_agrees 107 = .ok (.lcmp, 1) := by decide +kernel
theorem dX10_agrees_108 : decode cX10_agrees 108 = .ok (.ifCond .ne 6, 3) := by decide +kernel
theorem dX10_agrees_111 : decode cX10_agrees 111 = .ok (.iinc 3 1, 3) := by decide +kernel
theorem dX10_agrees_114 : decode cX10_agrees 114 = .ok (.iinc 5 1, 3) := by decide +kernel
theorem dX10_agrees_117 : decode cX10_agrees 117 = .ok (.goto (-63), 3) := by decide +kernel
theorem dX10_agrees_120 : decode cX10_agrees 120 = .ok (.iinc 4 1, 3) := by decide +kernel
theorem dX10_agrees_123 : decode cX10_agrees 123 = .ok (.goto (-78), 3) := by decide +kernel
theorem dX10_agrees_126 : decode cX10_agrees 126 = .ok (.iload_n 3, 1) := by decide +kernel
theorem dX10_agrees_127 : decode cX10_agrees 127 = .ok (.ireturn, 1) := by decide +kernel
theorem dX10_sheet_0 : decode cX10_sheet 0 = .ok (.aload_n 0, 1) := by decide +kernel
theorem dX10_sheet_1 : decode cX10_sheet 1 = .ok (.iload_n 1, 1) := by decide +kernel
theorem dX10_sheet_2 : decode cX10_sheet 2 = .ok (.invokevirtual 257, 3) := by decide +kernel
theorem dX10_sheet_5 : decode cX10_sheet 5 = .ok (.astore 4, 2) := by decide +kernel
theorem dX10_sheet_7 : decode cX10_sheet 7 = .ok (.aload 4, 2) := by decide +kernel
theorem dX10_sheet_9 : decode cX10_sheet 9 = .ok (.ifnull 13, 3) := by decide +kernel
theorem dX10_sheet_12 : decode cX10_sheet 12 = .ok (.iload_n 2, 1) := by decide +kernel
theorem dX10_sheet_13 : decode cX10_sheet 13 = .ok (.iconst (-1), 1) := by decide +kernel
theorem dX10_sheet_14 : decode cX10_sheet 14 = .ok (.if_icmp .lt 8, 3) := by decide +kernel
theorem dX10_sheet_17 : decode cX10_sheet 17 = .ok (.iload_n 2, 1) := by decide +kernel
theorem dX10_sheet_18 : decode cX10_sheet 18 = .ok (.iconst 2, 1) := by decide +kernel
theorem dX10_sheet_19 : decode cX10_sheet 19 = .ok (.if_icmp .le 5, 3) := by decide +kernel
theorem dX10_sheet_22 : decode cX10_sheet 22 = .ok (.iconst (-1), 1) := by decide +kernel
theorem dX10_sheet_23 : decode cX10_sheet 23 = .ok (.ireturn, 1) := by decide +kernel
theorem dX10_sheet_24 : decode cX10_sheet 24 = .ok (.iload_n 2, 1) := by decide +kernel
theorem dX10_sheet_25 : decode cX10_sheet 25 = .ok (.iconst (-1), 1) := by decide +kernel
theorem dX10_sheet_26 : decode cX10_sheet 26 = .ok (.if_icmp .ne 12, 3) := by decide +kernel
theorem dX10_sheet_29 : decode cX10_sheet 29 = .ok (.aload 4, 2) := by decide +kernel
theorem dX10_sheet_31 : decode cX10_sheet 31 = .ok (.iconst (-1), 1) := by decide +kernel
theorem dX10_sheet_32 : decode cX10_sheet 32 = .ok (.iconst 0, 1) := by decide +kernel
theorem dX10_sheet_33 : decode cX10_sheet 33 = .ok (.invokevirtual 261, 3) := by decide +kernel
theorem dX10_sheet_36 : decode cX10_sheet 36 = .ok (.iconst 1, 1) := by decide +kernel
theorem dX10_sheet_37 : decode cX10_sheet 37 = .ok (.ireturn, 1) := by decide +kernel
theorem dX10_sheet_38 : decode cX10_sheet 38 = .ok (.iload_n 3, 1) := by decide +kernel
theorem dX10_sheet_39 : decode cX10_sheet 39 = .ok (.bipush 60, 2) := by decide +kernel
theorem dX10_sheet_41 : decode cX10_sheet 41 = .ok (.if_icmp .le 5, 3) := by decide +kernel
theorem dX10_sheet_44 : decode cX10_sheet 44 = .ok (.iconst (-1), 1) := by decide +kernel
theorem dX10_sheet_45 : decode cX10_sheet 45 = .ok (.ireturn, 1) := by decide +kernel
theorem dX10_sheet_46 : decode cX10_sheet 46 = .ok (.iload_n 3, 1) := by decide +kernel
theorem dX10_sheet_47 : decode cX10_sheet 47 = .ok (.ifCond .ge 6, 3) := by decide +kernel
theorem dX10_sheet_50 : decode cX10_sheet 50 = .ok (.bipush (-14), 2) := by decide +kernel
theorem dX10_sheet_52 : decode cX10_sheet 52 = .ok (.ireturn, 1) := by decide +kernel
theorem dX10_sheet_53 : decode cX10_sheet 53 = .ok (.aload 4, 2) := by decide +kernel
theorem dX10_sheet_55 : decode cX10_sheet 55 = .ok (.iload_n 2, 1) := by decide +kernel
theorem dX10_sheet_56 : decode cX10_sheet 56 = .ok (.iload_n 3, 1) := by decide +kernel
theorem dX10_sheet_57 : decode cX10_sheet 57 = .ok (.invokevirtual 261, 3) := by decide +kernel
theorem dX10_sheet_60 : decode cX10_sheet 60 = .ok (.iconst 1, 1) := by decide +kernel
theorem dX10_sheet_61 : decode cX10_sheet 61 = .ok (.ireturn, 1) := by decide +kernel
theorem dX10_put_0 : decode cX10_put 0 = .ok (.aload_n 0, 1) := by decide +kernel
theorem dX10_put_1 : decode cX10_put 1 = .ok (.iload_n 1, 1) := by decide +kernel
theorem dX10_put_2 : decode cX10_put 2 = .ok (.invokevirtual 257, 3) := by decide +kernel
theorem dX10_put_5 : decode cX10_put 5 = .ok (.astore 5, 2) := by decide +kernel
theorem dX10_put_7 : decode cX10_put 7 = .ok (.aload 5, 2) := by decide +kernel
theorem dX10_put_9 : decode cX10_put 9 = .ok (.ifnonnull 5, 3) := by decide +kernel
theorem dX10_put_12 : decode cX10_put 12 = .ok (.iconst (-1), 1) := by decide +kernel
theorem dX10_put_13 : decode cX10_put 13 = .ok (.ireturn, 1) := by decide +kernel
theorem dX10_put_14 : decode cX10_put 14 = .ok (.aload 5, 2) := by decide +kernel
theorem dX10_put_16 : decode cX10_put 16 = .ok (.getfield 265, 3) := by decide +kernel
theorem dX10_put_19 : decode cX10_put 19 = .ok (.iconst (-1), 1) := by decide +kernel
theorem dX10_put_20 : decode cX10_put 20 = .ok (.if_icmp .ne 6, 3) := by decide +kernel
theorem dX10_put_23 : decode cX10_put 23 = .ok (.bipush (-11), 2) := by decide +kernel
theorem dX10_put_25 : decode cX10_put 25 = .ok (.ireturn, 1) := by decide +kernel
theorem dX10_put_26 : decode cX10_put 26 = .ok (.aload 5, 2) := by decide +kernel
theorem dX10_put_28 : decode cX10_put 28 = .ok (.iload_n 2, 1) := by decide +kernel
theorem dX10_put_29 : decode cX10_put 29 = .ok (.invokevirtual 268, 3) := by decide +kernel
theorem dX10_put_32 : decode cX10_put 32 = .ok (.ifCond .ne 6, 3) := by decide +kernel
theorem dX10_put_35 : decode cX10_put 35 = .ok (.bipush (-12), 2) := by decide +kernel
theorem dX10_put_37 : decode cX10_put 37 = .ok (.ireturn, 1) := by decide +kernel
theorem dX10_put_38 : decode cX10_put 38 = .ok (.aload 5, 2) := by decide +kernel
theorem dX10_put_40 : decode cX10_put 40 = .ok (.getfield 271, 3) := by decide +kernel
theorem dX10_put_43 : decode cX10_put 43 = .ok (.iload_n 2, 1) := by decide +kernel
theorem dX10_put_44 : decode cX10_put 44 = .ok (.aload 5, 2) := by decide +kernel
theorem dX10_put_46 : decode cX10_put 46 = .ok (.lload_n 3, 1) := by decide +kernel
theorem dX10_put_47 : decode cX10_put 47 = .ok (.invokevirtual 274, 3) := by decide +kernel
theorem dX10_put_50 : decode cX10_put 50 = .ok (.lastore, 1) := by decide +kernel
theorem dX10_put_51 : decode cX10_put 51 = .ok (.iconst 1, 1) := by decide +kernel
theorem dX10_put_52 : decode cX10_put 52 = .ok (.ireturn, 1) := by decide +kernel
theorem dX10_item_0 : decode cX10_item 0 = .ok (.aload_n 0, 1) := by decide +kernel
theorem dX10_item_1 : decode cX10_item 1 = .ok (.iload_n 1, 1) := by decide +kernel
theorem dX10_item_2 : decode cX10_item 2 = .ok (.invokevirtual 257, 3) := by decide +kernel
theorem dX10_item_5 : decode cX10_item 5 = .ok (.astore 4, 2) := by decide +kernel
theorem dX10_item_7 : decode cX10_item 7 = .ok (.aload 4, 2) := by decide +kernel
theorem dX10_item_9 : decode cX10_item 9 = .ok (.ifnull 12, 3) := by decide +kernel
theorem dX10_item_12 : decode cX10_item 12 = .ok (.iload_n 2, 1) := by decide +kernel
theorem dX10_item_13 : decode cX10_item 13 = .ok (.ifCond .lt 8, 3) := by decide +kernel
theorem dX10_item_16 : decode cX10_item 16 = .ok (.iload_n 2, 1) := by decide +kernel
theorem dX10_item_17 : decode cX10_item 17 = .ok (.iconst 2, 1) := by decide +kernel
theorem dX10_item_18 : decode cX10_item 18 = .ok (.if_icmp .le 5, 3) := by decide +kernel
theorem dX10_item_21 : decode cX10_item 21 = .ok (.iconst (-1), 1) := by decide +kernel
theorem dX10_item_22 : decode cX10_item 22 = .ok (.ireturn, 1) := by decide +kernel
theorem dX10_item_23 : decode cX10_item 23 = .ok (.aload 4, 2) := by decide +kernel
theorem dX10_item_25 : decode cX10_item 25 = .ok (.getfield 265, 3) := by decide +kernel
theorem dX10_item_28 : decode cX10_item 28 = .ok (.iconst (-1), 1) := by decide +kernel
theorem dX10_item_29 : decode cX10_item 29 = .ok (.if_icmp .ne 6, 3) := by decide +kernel
theorem dX10_item_32 : decode cX10_item 32 = .ok (.bipush (-11), 2) := by decide +kernel
theorem dX10_item_34 : decode cX10_item 34 = .ok (.ireturn, 1) := by decide +kernel
theorem dX10_item_35 : decode cX10_item 35 = .ok (.aload 4, 2) := by decide +kernel
theorem dX10_item_37 : decode cX10_item 37 = .ok (.getfield 265, 3) := by decide +kernel
theorem dX10_item_40 : decode cX10_item 40 = .ok (.iload_n 2, 1) := by decide +kernel
theorem dX10_item_41 : decode cX10_item 41 = .ok (.if_icmp .eq 6, 3) := by decide +kernel
theorem dX10_item_44 : decode cX10_item 44 = .ok (.bipush (-13), 2) := by decide +kernel
theorem dX10_item_46 : decode cX10_item 46 = .ok (.ireturn, 1) := by decide +kernel
theorem dX10_item_47 : decode cX10_item 47 = .ok (.aload 4, 2) := by decide +kernel
theorem dX10_item_49 : decode cX10_item 49 = .ok (.iload_n 3, 1) := by decide +kernel
theorem dX10_item_50 : decode cX10_item 50 = .ok (.invokevirtual 268, 3) := by decide +kernel
theorem dX10_item_53 : decode cX10_item 53 = .ok (.ifCond .ne 6, 3) := by decide +kernel
theorem dX10_item_56 : decode cX10_item 56 = .ok (.bipush (-12), 2) := by decide +kernel
theorem dX10_item_58 : decode cX10_item 58 = .ok (.ireturn, 1) := by decide +kernel
theorem dX10_item_59 : decode cX10_item 59 = .ok (.aload 4, 2) := by decide +kernel
theorem dX10_item_61 : decode cX10_item 61 = .ok (.getfield 271, 3) := by decide +kernel
theorem dX10_item_64 : decode cX10_item 64 = .ok (.iload_n 3, 1) := by decide +kernel
theorem dX10_item_65 : decode cX10_item 65 = .ok (.laload, 1) := by decide +kernel
theorem dX10_item_66 : decode cX10_item 66 = .ok (.l2i, 1) := by decide +kernel
theorem dX10_item_67 : decode cX10_item 67 = .ok (.ireturn, 1) := by decide +kernel
theorem dX10_lay_0 : decode cX10_lay 0 = .ok (.aload_n 0, 1) := by decide +kernel
theorem dX10_lay_1 : decode cX10_lay 1 = .ok (.iload_n 1, 1) := by decide +kernel
theorem dX10_lay_2 : decode cX10_lay 2 = .ok (.invokevirtual 257, 3) := by decide +kernel
theorem dX10_lay_5 : decode cX10_lay 5 = .ok (.astore_n 3, 1) := by decide +kernel
theorem dX10_lay_6 : decode cX10_lay 6 = .ok (.aload_n 3, 1) := by decide +kernel
theorem dX10_lay_7 : decode cX10_lay 7 = .ok (.iload_n 2, 1) := by decide +kernel
theorem dX10_lay_8 : decode cX10_lay 8 = .ok (.invokestatic 278, 3) := by decide +kernel
theorem dX10_lay_11 : decode cX10_lay 11 = .ok (.istore 4, 2) := by decide +kernel
theorem dX10_lay_13 : decode cX10_lay 13 = .ok (.aload_n 3, 1) := by decide +kernel
theorem dX10_lay_14 : decode cX10_lay 14 = .ok (.ifnull 8, 3) := by decide +kernel
theorem dX10_lay_17 : decode cX10_lay 17 = .ok (.iload 4, 2) := by decide +kernel
theorem dX10_lay_19 : decode cX10_lay 19 = .ok (.ifCond .eq 6, 3) := by decide +kernel
theorem dX10_lay_22 : decode cX10_lay 22 = .ok (.iload 4, 2) := by decide +kernel
theorem dX10_lay_24 : decode cX10_lay 24 = .ok (.ireturn, 1) := by decide +kernel
theorem dX10_lay_25 : decode cX10_lay 25 = .ok (.aload_n 0, 1) := by decide +kernel
theorem dX10_lay_26 : decode cX10_lay 26 = .ok (.getfield 59, 3) := by decide +kernel
theorem dX10_lay_29 : decode cX10_lay 29 = .ok (.iload_n 2, 1) := by decide +kernel
theorem dX10_lay_30 : decode cX10_lay 30 = .ok (.iconst 1, 1) := by decide +kernel
theorem dX10_lay_31 : decode cX10_lay 31 = .ok (.isub, 1) := by decide +kernel
theorem dX10_lay_32 : decode cX10_lay 32 = .ok (.aload_n 3, 1) := by decide +kernel
theorem dX10_lay_33 : decode cX10_lay 33 = .ok (.iload_n 2, 1) := by decide +kernel
theorem dX10_lay_34 : decode cX10_lay 34 = .ok (.invokevirtual 282, 3) := by decide +kernel
theorem dX10_lay_37 : decode cX10_lay 37 = .ok (.aload_n 0, 1) := by decide +kernel
theorem dX10_lay_38 : decode cX10_lay 38 = .ok (.getfield 14, 3) := by decide +kernel
theorem dX10_lay_41 : decode cX10_lay 41 = .ok (.invokevirtual 170, 3) := by decide +kernel
theorem dX10_lay_44 : decode cX10_lay 44 = .ok (.iconst 0, 1) := by decide +kernel
theorem dX10_lay_45 : decode cX10_lay 45 = .ok (.istore 5, 2) := by decide +kernel
theorem dX10_lay_47 : decode cX10_lay 47 = .ok (.iload 5, 2) := by decide +kernel
theorem dX10_lay_49 : decode cX10_lay 49 = .ok (.aload_n 3, 1) := by decide +kernel
theorem dX10_lay_50 : decode cX10_lay 50 = .ok (.getfield 286, 3) := by decide +kernel
theorem dX10_lay_53 : decode cX10_lay 53 = .ok (.if_icmp .ge 27, 3) := by decide +kernel
theorem dX10_lay_56 : decode cX10_lay 56 = .ok (.aload_n 0, 1) := by decide +kernel
theorem dX10_lay_57 : decode cX10_lay 57 = .ok (.iload 5, 2) := by decide +kernel
theorem dX10_lay_59 : decode cX10_lay 59 = .ok (.iload_n 2, 1) := by decide +kernel
theorem dX10_lay_60 : decode cX10_lay 60 = .ok (.invokevirtual 287, 3) := by decide +kernel
theorem dX10_lay_63 : decode cX10_lay 63 = .ok (.aload_n 3, 1) := by decide +kernel
theorem dX10_lay_64 : decode cX10_lay 64 = .ok (.invokevirtual 290, 3) := by decide +kernel
theorem dX10_lay_67 : decode cX10_lay 67 = .ok (.lcmp, 1) := by decide +kernel
theorem dX10_lay_68 : decode cX10_lay 68 = .ok (.ifCond .le 6, 3) := by decide +kernel
theorem dX10_lay_71 : decode cX10_lay 71 = .ok (.bipush (-16), 2) := by decide +kernel
theorem dX10_lay_73 : decode cX10_lay 73 = .ok (.ireturn, 1) := by decide +kernel
theorem dX10_lay_74 : decode cX10_lay 74 = .ok (.iinc 5 1, 3) := by decide +kernel
theorem dX10_lay_77 : decode cX10_lay 77 = .ok (.goto (-30), 3) := by decide +kernel
theorem dX10_lay_80 : decode cX10_lay 80 = .ok (.iconst 0, 1) := by decide +kernel
theorem dX10_lay_81 : decode cX10_lay 81 = .ok (.istore 5, 2) := by decide +kernel
theorem dX10_lay_83 : decode cX10_lay 83 = .ok (.iload 5, 2) := by decide +kernel
theorem dX10_lay_85 : decode cX10_lay 85 = .ok (.aload_n 3, 1) := by decide +kernel
theorem dX10_lay_86 : decode cX10_lay 86 = .ok (.getfield 286, 3) := by decide +kernel
theorem dX10_lay_89 : decode cX10_lay 89 = .ok (.if_icmp .ge 30, 3) := by decide +kernel
theorem dX10_lay_92 : decode cX10_lay 92 = .ok (.iload 5, 2) := by decide +kernel
theorem dX10_lay_94 : decode cX10_lay 94 = .ok (.bipush 60, 2) := by decide +kernel
theorem dX10_lay_96 : decode cX10_lay 96 = .ok (.if_icmp .ge 23, 3) := by decide +kernel
theorem dX10_lay_99 : decode cX10_lay 99 = .ok (.aload_n 3, 1) := by decide +kernel
theorem dX10_lay_100 : decode cX10_lay 100 = .ok (.getfield 271, 3) := by decide +kernel
theorem dX10_lay_103 : decode cX10_lay 103 = .ok (.iload 5, 2) := by decide +kernel
theorem dX10_lay_105 : decode cX10_lay 105 = .ok (.aload_n 0, 1) := by decide +kernel
theorem dX10_lay_106 : decode cX10_lay 106 = .ok (.iload 5, 2) := by decide +kernel
theorem dX10_lay_108 : decode cX10_lay 108 = .ok (.iload_n 2, 1) := by decide +kernel
theorem dX10_lay_109 : decode cX10_lay 109 = .ok (.invokevirtual 287, 3) := by decide +kernel
theorem dX10_lay_112 : decode cX10_lay 112 = .ok (.lastore, 1) := by decide +kernel
theorem dX10_lay_113 : decode cX10_lay 113 = .ok (.iinc 5 1, 3) := by decide +kernel
theorem dX10_lay_116 : decode cX10_lay 116 = .ok (.goto (-33), 3) := by decide +kernel
theorem dX10_lay_119 : decode cX10_lay 119 = .ok (.aload_n 3, 1) := by decide +kernel
theorem dX10_lay_120 : decode cX10_lay 120 = .ok (.getfield 286, 3) := by decide +kernel
theorem dX10_lay_123 : decode cX10_lay 123 = .ok (.ireturn, 1) := by decide +kernel
theorem dX10_check_0 : decode cX10_check 0 = .ok (.aload_n 0, 1) := by decide +kernel
theorem dX10_check_1 : decode cX10_check 1 = .ok (.iload_n 1, 1) := by decide +kernel
theorem dX10_check_2 : decode cX10_check 2 = .ok (.invokevirtual 257, 3) := by decide +kernel
theorem dX10_check_5 : decode cX10_check 5 = .ok (.astore_n 3, 1) := by decide +kernel
theorem dX10_check_6 : decode cX10_check 6 = .ok (.aload_n 3, 1) := by decide +kernel
theorem dX10_check_7 : decode cX10_check 7 = .ok (.iload_n 2, 1) := by decide +kernel
theorem dX10_check_8 : decode cX10_check 8 = .ok (.invokestatic 278, 3) := by decide +kernel
theorem dX10_check_11 : decode cX10_check 11 = .ok (.istore 4, 2) := by decide +kernel
theorem dX10_check_13 : decode cX10_check 13 = .ok (.aload_n 3, 1) := by decide +kernel
theorem dX10_check_14 : decode cX10_check 14 = .ok (.ifnull 8, 3) := by decide +kernel
theorem dX10_check_17 : decode cX10_check 17 = .ok (.iload 4, 2) := by decide +kernel
theorem dX10_check_19 : decode cX10_check 19 = .ok (.ifCond .eq 6, 3) := by decide +kernel
theorem dX10_check_22 : decode cX10_check 22 = .ok (.iload 4, 2) := by decide +kernel
theorem dX10_check_24 : decode cX10_check 24 = .ok (.ireturn, 1) := by decide +kernel
theorem dX10_check_25 : decode cX10_check 25 = .ok (.aload_n 0, 1) := by decide +kernel
theorem dX10_check_26 : decode cX10_check 26 = .ok (.getfield 59, 3) := by decide +kernel
theorem dX10_check_29 : decode cX10_check 29 = .ok (.iload_n 2, 1) := by decide +kernel
theorem dX10_check_30 : decode cX10_check 30 = .ok (.iconst 1, 1) := by decide +kernel
theorem dX10_check_31 : decode cX10_check 31 = .ok (.isub, 1) := by decide +kernel
theorem dX10_check_32 : decode cX10_check 32 = .ok (.aload_n 3, 1) := by decide +kernel
theorem dX10_check_33 : decode cX10_check 33 = .ok (.iload_n 2, 1) := by decide +kernel
theorem dX10_check_34 : decode cX10_check 34 = .ok (.invokevirtual 282, 3) := by decide +kernel
theorem dX10_check_37 : decode cX10_check 37 = .ok (.aload_n 0, 1) := by decide +kernel
theorem dX10_check_38 : decode cX10_check 38 = .ok (.getfield 14, 3) := by decide +kernel
theorem dX10_check_41 : decode cX10_check 41 = .ok (.invokevirtual 170, 3) := by decide +kernel
theorem dX10_check_44 : decode cX10_check 44 = .ok (.iconst 0, 1) := by decide +kernel
theorem dX10_check_45 : decode cX10_check 45 = .ok (.istore 5, 2) := by decide +kernel
theorem dX10_check_47 : decode cX10_check 47 = .ok (.iload 5, 2) := by decide +kernel
theorem dX10_check_49 : decode cX10_check 49 = .ok (.aload_n 3, 1) := by decide +kernel
theorem dX10_check_50 : decode cX10_check 50 = .ok (.getfield 286, 3) := by decide +kernel
theorem dX10_check_53 : decode cX10_check 53 = .ok (.if_icmp .ge 37, 3) := by decide +kernel
theorem dX10_check_56 : decode cX10_check 56 = .ok (.iload 5, 2) := by decide +kernel
theorem dX10_check_58 : decode cX10_check 58 = .ok (.bipush 60, 2) := by decide +kernel
theorem dX10_check_60 : decode cX10_check 60 = .ok (.if_icmp .ge 30, 3) := by decide +kernel
theorem dX10_check_63 : decode cX10_check 63 = .ok (.aload_n 3, 1) := by decide +kernel
theorem dX10_check_64 : decode cX10_check 64 = .ok (.getfield 271, 3) := by decide +kernel
theorem dX10_check_67 : decode cX10_check 67 = .ok (.iload 5, 2) := by decide +kernel
theorem dX10_check_69 : decode cX10_check 69 = .ok (.laload, 1) := by decide +kernel
theorem dX10_check_70 : decode cX10_check 70 = .ok (.aload_n 0, 1) := by decide +kernel
theorem dX10_check_71 : decode cX10_check 71 = .ok (.iload 5, 2) := by decide +kernel
theorem dX10_check_73 : decode cX10_check 73 = .ok (.iload_n 2, 1) := by decide +kernel
theorem dX10_check_74 : decode cX10_check 74 = .ok (.invokevirtual 287, 3) := by decide +kernel
theorem dX10_check_77 : decode cX10_check 77 = .ok (.lcmp, 1) := by decide +kernel
theorem dX10_check_78 : decode cX10_check 78 = .ok (.ifCond .eq 6, 3) := by decide +kernel
theorem dX10_check_81 : decode cX10_check 81 = .ok (.iload 5, 2) := by decide +kernel
theorem dX10_check_83 : decode cX10_check 83 = .ok (.ireturn, 1) := by decide +kernel
theorem dX10_check_84 : decode cX10_check 84 = .ok (.iinc 5 1, 3) := by decide +kernel
theorem dX10_check_87 : decode cX10_check 87 = .ok (.goto (-40), 3) := by decide +kernel
theorem dX10_check_90 : decode cX10_check 90 = .ok (.bipush (-3), 2) := by decide +kernel
theorem dX10_check_92 : decode cX10_check 92 = .ok (.ireturn, 1) := by decide +kernel
theorem dX10_more_0 : decode cX10_more 0 = .ok (.iload_n 3, 1) := by decide +kernel
theorem dX10_more_1 : decode cX10_more 1 = .ok (.ifCond .lt 8, 3) := by decide +kernel
theorem dX10_more_4 : decode cX10_more 4 = .ok (.iload_n 3, 1) := by decide +kernel
theorem dX10_more_5 : decode cX10_more 5 = .ok (.iconst 1, 1) := by decide +kernel
theorem dX10_more_6 : decode cX10_more 6 = .ok (.if_icmp .le 5, 3) := by decide +kernel
theorem dX10_more_9 : decode cX10_more 9 = .ok (.iconst (-1), 1) := by decide +kernel
theorem dX10_more_10 : decode cX10_more 10 = .ok (.ireturn, 1) := by decide +kernel
theorem dX10_more_11 : decode cX10_more 11 = .ok (.aload_n 0, 1) := by decide +kernel
theorem dX10_more_12 : decode cX10_more 12 = .ok (.iload_n 1, 1) := by decide +kernel
theorem dX10_more_13 : decode cX10_more 13 = .ok (.invokevirtual 257, 3) := by decide +kernel
theorem dX10_more_16 : decode cX10_more 16 = .ok (.astore 4, 2) := by decide +kernel
theorem dX10_more_18 : decode cX10_more 18 = .ok (.aload 4, 2) := by decide +kernel
theorem dX10_more_20 : decode cX10_more 20 = .ok (.iload_n 2, 1) := by decide +kernel
theorem dX10_more_21 : decode cX10_more 21 = .ok (.invokestatic 278, 3) := by decide +kernel
theorem dX10_more_24 : decode cX10_more 24 = .ok (.istore 5, 2) := by decide +kernel
theorem dX10_more_26 : decode cX10_more 26 = .ok (.aload 4, 2) := by decide +kernel
theorem dX10_more_28 : decode cX10_more 28 = .ok (.ifnull 8, 3) := by decide +kernel
theorem dX10_more_31 : decode cX10_more 31 = .ok (.iload 5, 2) := by decide +kernel
theorem dX10_more_33 : decode cX10_more 33 = .ok (.ifCond .eq 6, 3) := by decide +kernel
theorem dX10_more_36 : decode cX10_more 36 = .ok (.iload 5, 2) := by decide +kernel
theorem dX10_more_38 : decode cX10_more 38 = .ok (.ireturn, 1) := by decide +kernel
theorem dX10_more_39 : decode cX10_more 39 = .ok (.aload_n 0, 1) := by decide +kernel
theorem dX10_more_40 : decode cX10_more 40 = .ok (.getfield 52, 3) := by decide +kernel
theorem dX10_more_43 : decode cX10_more 43 = .ok (.iload_n 2, 1) := by decide +kernel
theorem dX10_more_44 : decode cX10_more 44 = .ok (.iconst 1, 1) := by decide +kernel
theorem dX10_more_45 : decode cX10_more 45 = .ok (.isub, 1) := by decide +kernel
theorem dX10_more_46 : decode cX10_more 46 = .ok (.aload 4, 2) := by decide +kernel
theorem dX10_more_48 : decode cX10_more 48 = .ok (.iload_n 2, 1) := by decide +kernel
theorem dX10_more_49 : decode cX10_more 49 = .ok (.invokevirtual 282, 3) := by decide +kernel
theorem dX10_more_52 : decode cX10_more 52 = .ok (.aload_n 0, 1) := by decide +kernel
theorem dX10_more_53 : decode cX10_more 53 = .ok (.getfield 14, 3) := by decide +kernel
theorem dX10_more_56 : decode cX10_more 56 = .ok (.invokevirtual 178, 3) := by decide +kernel
theorem dX10_more_59 : decode cX10_more 59 = .ok (.iconst 0, 1) := by decide +kernel
theorem dX10_more_60 : decode cX10_more 60 = .ok (.istore 6, 2) := by decide +kernel
theorem dX10_more_62 : decode cX10_more 62 = .ok (.bipush (-3), 2) := by decide +kernel
theorem dX10_more_64 : decode cX10_more 64 = .ok (.istore 7, 2) := by decide +kernel
theorem dX10_more_66 : decode cX10_more 66 = .ok (.iconst 0, 1) := by decide +kernel
theorem dX10_more_67 : decode cX10_more 67 = .ok (.istore 8, 2) := by decide +kernel
theorem dX10_more_69 : decode cX10_more 69 = .ok (.iload 8, 2) := by decide +kernel
theorem dX10_more_71 : decode cX10_more 71 = .ok (.iconst 4, 1) := by decide +kernel
theorem dX10_more_72 : decode cX10_more 72 = .ok (.if_icmp .gt 72, 3) := by decide +kernel
theorem dX10_more_75 : decode cX10_more 75 = .ok (.iconst 0, 1) := by decide +kernel
theorem dX10_more_76 : decode cX10_more 76 = .ok (.istore 9, 2) := by decide +kernel
theorem dX10_more_78 : decode cX10_more 78 = .ok (.iload 9, 2) := by decide +kernel
theorem dX10_more_80 : decode cX10_more 80 = .ok (.iconst 4, 1) := by decide +kernel
theorem dX10_more_81 : decode cX10_more 81 = .ok (.if_icmp .gt 57, 3) := by decide +kernel
theorem dX10_more_84 : decode cX10_more 84 = .ok (.iload 8, 2) := by decide +kernel
theorem dX10_more_86 : decode cX10_more 86 = .ok (.iload 9, 2) := by decide +kernel
theorem dX10_more_88 : decode cX10_more 88 = .ok (.invokestatic 95, 3) := by decide +kernel
theorem dX10_more_91 : decode cX10_more 91 = .ok (.ifCond .eq 41, 3) := by decide +kernel
theorem dX10_more_94 : decode cX10_more 94 = .ok (.aload_n 0, 1) := by decide +kernel
theorem dX10_more_95 : decode cX10_more 95 = .ok (.aload 4, 2) := by decide +kernel
theorem dX10_more_97 : decode cX10_more 97 = .ok (.iload_n 2, 1) := by decide +kernel
theorem dX10_more_98 : decode cX10_more 98 = .ok (.iload 8, 2) := by decide +kernel
theorem dX10_more_100 : decode cX10_more 100 = .ok (.iload 9, 2) := by decide +kernel
theorem dX10_more_102 : decode cX10_more 102 = .ok (.invokevirtual 294, 3) := by decide +kernel
theorem dX10_more_105 : decode cX10_more 105 = .ok (.ifCond .eq 27, 3) := by decide +kernel
theorem dX10_more_108 : decode cX10_more 108 = .ok (.iinc 6 1, 3) := by decide +kernel
theorem dX10_more_111 : decode cX10_more 111 = .ok (.iload 6, 2) := by decide +kernel
theorem dX10_more_113 : decode cX10_more 113 = .ok (.iconst 1, 1) := by decide +kernel
theorem dX10_more_114 : decode cX10_more 114 = .ok (.if_icmp .ne 14, 3) := by decide +kernel
theorem dX10_more_117 : decode cX10_more 117 = .ok (.bipush 10, 2) := by decide +kernel
theorem dX10_more_119 : decode cX10_more 119 = .ok (.iload 8, 2) := by decide +kernel
theorem dX10_more_121 : decode cX10_more 121 = .ok (.imul, 1) := by decide +kernel
theorem dX10_more_122 : decode cX10_more 122 = .ok (.iload 9, 2) := by decide +kernel
theorem dX10_more_124 : decode cX10_more 124 = .ok (.iadd, 1) := by decide +kernel
theorem dX10_more_125 : decode cX10_more 125 = .ok (.goto 5, 3) := by decide +kernel
theorem dX10_more_128 : decode cX10_more 128 = .ok (.iload 7, 2) := by decide +kernel
theorem dX10_more_130 : decode cX10_more 130 = .ok (.istore 7, 2) := by decide +kernel
theorem dX10_more_132 : decode cX10_more 132 = .ok (.iinc 9 1, 3) := by decide +kernel
theorem dX10_more_135 : decode cX10_more 135 = .ok (.goto (-57), 3) := by decide +kernel
theorem dX10_more_138 : decode cX10_more 138 = .ok (.iinc 8 1, 3) := by decide +kernel
theorem dX10_more_141 : decode cX10_more 141 = .ok (.goto (-72), 3) := by decide +kernel
theorem dX10_more_144 : decode cX10_more 144 = .ok (.iload_n 3, 1) := by decide +kernel
theorem dX10_more_145 : decode cX10_more 145 = .ok (.ifCond .ne 8, 3) := by decide +kernel
theorem dX10_more_148 : decode cX10_more 148 = .ok (.iload 6, 2) := by decide +kernel
theorem dX10_more_150 : decode cX10_more 150 = .ok (.goto 5, 3) := by decide +kernel
theorem dX10_more_153 : decode cX10_more 153 = .ok (.iload 7, 2) := by decide +kernel
theorem dX10_more_155 : decode cX10_more 155 = .ok (.ireturn, 1) := by decide +kernel
theorem dX10_seed_0 : decode cX10_seed 0 = .ok (.aload_n 0, 1) := by decide +kernel
theorem dX10_seed_1 : decode cX10_seed 1 = .ok (.getfield 91, 3) := by decide +kernel
theorem dX10_seed_4 : decode cX10_seed 4 = .ok (.istore_n 2, 1) := by decide +kernel
theorem dX10_seed_5 : decode cX10_seed 5 = .ok (.aload_n 0, 1) := by decide +kernel
theorem dX10_seed_6 : decode cX10_seed 6 = .ok (.iload_n 1, 1) := by decide +kernel
theorem dX10_seed_7 : decode cX10_seed 7 = .ok (.putfield 91, 3) := by decide +kernel
theorem dX10_seed_10 : decode cX10_seed 10 = .ok (.iload_n 2, 1) := by decide +kernel
theorem dX10_seed_11 : decode cX10_seed 11 = .ok (.ireturn, 1) := by decide +kernel
theorem dX10_lot_0 : decode cX10_lot 0 = .ok (.iload_n 1, 1) := by decide +kernel
theorem dX10_lot_1 : decode cX10_lot 1 = .ok (.iconst 1, 1) := by decide +kernel
theorem dX10_lot_2 : decode cX10_lot 2 = .ok (.if_icmp .lt 9, 3) := by decide +kernel
theorem dX10_lot_5 : decode cX10_lot 5 = .ok (.iload_n 1, 1) := by decide +kernel
theorem dX10_lot_6 : decode cX10_lot 6 = .ok (.bipush 6, 2) := by decide +kernel
theorem dX10_lot_8 : decode cX10_lot 8 = .ok (.if_icmp .le 5, 3) := by decide +kernel
theorem dX10_lot_11 : decode cX10_lot 11 = .ok (.iconst (-1), 1) := by decide +kernel
theorem dX10_lot_12 : decode cX10_lot 12 = .ok (.ireturn, 1) := by decide +kernel
theorem dX10_lot_13 : decode cX10_lot 13 = .ok (.iload_n 1, 1) := by decide +kernel
theorem dX10_lot_14 : decode cX10_lot 14 = .ok (.bipush 6, 2) := by decide +kernel
theorem dX10_lot_16 : decode cX10_lot 16 = .ok (.aload_n 0, 1) := by decide +kernel
theorem dX10_lot_17 : decode cX10_lot 17 = .ok (.getfield 14, 3) := by decide +kernel
theorem dX10_lot_20 : decode cX10_lot 20 = .ok (.getfield 103, 3) := by decide +kernel
theorem dX10_lot_23 : decode cX10_lot 23 = .ok (.isub, 1) := by decide +kernel
theorem dX10_lot_24 : decode cX10_lot 24 = .ok (.invokestatic 298, 3) := by decide +kernel
theorem dX10_lot_27 : decode cX10_lot 27 = .ok (.istore_n 2, 1) := by decide +kernel
theorem dX10_lot_28 : decode cX10_lot 28 = .ok (.iconst 0, 1) := by decide +kernel
theorem dX10_lot_29 : decode cX10_lot 29 = .ok (.istore_n 3, 1) := by decide +kernel
theorem dX10_lot_30 : decode cX10_lot 30 = .ok (.iload_n 3, 1) := by decide +kernel
theorem dX10_lot_31 : decode cX10_lot 31 = .ok (.iload_n 2, 1) := by decide +kernel
theorem dX10_lot_32 : decode cX10_lot 32 = .ok (.if_icmp .ge 54, 3) := by decide +kernel
theorem dX10_lot_35 : decode cX10_lot 35 = .ok (.aload_n 0, 1) := by decide +kernel
theorem dX10_lot_36 : decode cX10_lot 36 = .ok (.invokevirtual 303, 3) := by decide +kernel
theorem dX10_lot_39 : decode cX10_lot 39 = .ok (.iconst 5, 1) := by decide +kernel
theorem dX10_lot_40 : decode cX10_lot 40 = .ok (.irem, 1) := by decide +kernel
theorem dX10_lot_41 : decode cX10_lot 41 = .ok (.istore 4, 2) := by decide +kernel
theorem dX10_lot_43 : decode cX10_lot 43 = .ok (.aload_n 0, 1) := by decide +kernel
theorem dX10_lot_44 : decode cX10_lot 44 = .ok (.invokevirtual 303, 3) := by decide +kernel
theorem dX10_lot_47 : decode cX10_lot 47 = .ok (.iconst 5, 1) := by decide +kernel
theorem dX10_lot_48 : decode cX10_lot 48 = .ok (.irem, 1) := by decide +kernel
theorem dX10_lot_49 : decode cX10_lot 49 = .ok (.istore 5, 2) := by decide +kernel
theorem dX10_lot_51 : decode cX10_lot 51 = .ok (.iload 4, 2) := by decide +kernel
theorem dX10_lot_53 : decode cX10_lot 53 = .ok (.ifCond .ne 18, 3) := by decide +kernel
theorem dX10_lot_56 : decode cX10_lot 56 = .ok (.iload 5, 2) := by decide +kernel
theorem dX10_lot_58 : decode cX10_lot 58 = .ok (.ifCond .ne 13, 3) := by decide +kernel
theorem dX10_lot_61 : decode cX10_lot 61 = .ok (.aload_n 0, 1) := by decide +kernel
theorem dX10_lot_62 : decode cX10_lot 62 = .ok (.iconst 1, 1) := by decide +kernel
theorem dX10_lot_63 : decode cX10_lot 63 = .ok (.iconst 1, 1) := by decide +kernel
theorem dX10_lot_64 : decode cX10_lot 64 = .ok (.invokevirtual 99, 3) := by decide +kernel
theorem dX10_lot_67 : decode cX10_lot 67 = .ok (.pop, 1) := by decide +kernel
theorem dX10_lot_68 : decode cX10_lot 68 = .ok (.goto 12, 3) := by decide +kernel
theorem dX10_lot_71 : decode cX10_lot 71 = .ok (.aload_n 0, 1) := by decide +kernel
theorem dX10_lot_72 : decode cX10_lot 72 = .ok (.iload 4, 2) := by decide +kernel
theorem dX10_lot_74 : decode cX10_lot 74 = .ok (.iload 5, 2) := by decide +kernel
theorem dX10_lot_76 : decode cX10_lot 76 = .ok (.invokevirtual 99, 3) := by decide +kernel
theorem dX10_lot_79 : decode cX10_lot 79 = .ok (.pop, 1) := by decide +kernel
theorem dX10_lot_80 : decode cX10_lot 80 = .ok (.iinc 3 1, 3) := by decide +kernel
theorem dX10_lot_83 : decode cX10_lot 83 = .ok (.goto (-53), 3) := by decide +kernel
theorem dX10_lot_86 : decode cX10_lot 86 = .ok (.iload_n 2, 1) := by decide +kernel
theorem dX10_lot_87 : decode cX10_lot 87 = .ok (.ireturn, 1) := by decide +kernel
theorem dX10_many_0 : decode cX10_many 0 = .ok (.iload_n 1, 1) := by decide +kernel
theorem dX10_many_1 : decode cX10_many 1 = .ok (.tableswitch 95 0 5 #[39, 47, 55, 63, 71, 79], 39) := by decide +kernel
theorem dX10_many_40 : decode cX10_many 40 = .ok (.aload_n 0, 1) := by decide +kernel
theorem dX10_many_41 : decode cX10_many 41 = .ok (.getfield 14, 3) := by decide +kernel
theorem dX10_many_44 : decode cX10_many 44 = .ok (.getfield 103, 3) := by decide +kernel
theorem dX10_many_47 : decode cX10_many 47 = .ok (.ireturn, 1) := by decide +kernel
theorem dX10_many_48 : decode cX10_many 48 = .ok (.aload_n 0, 1) := by decide +kernel
theorem dX10_many_49 : decode cX10_many 49 = .ok (.getfield 45, 3) := by decide +kernel
theorem dX10_many_52 : decode cX10_many 52 = .ok (.getfield 306, 3) := by decide +kernel
theorem dX10_many_55 : decode cX10_many 55 = .ok (.ireturn, 1) := by decide +kernel
theorem dX10_many_56 : decode cX10_many 56 = .ok (.aload_n 0, 1) := by decide +kernel
theorem dX10_many_57 : decode cX10_many 57 = .ok (.getfield 45, 3) := by decide +kernel
theorem dX10_many_60 : decode cX10_many 60 = .ok (.invokevirtual 213, 3) := by decide +kernel
theorem dX10_many_63 : decode cX10_many 63 = .ok (.ireturn, 1) := by decide +kernel
theorem dX10_many_64 : decode cX10_many 64 = .ok (.aload_n 0, 1) := by decide +kernel
theorem dX10_many_65 : decode cX10_many 65 = .ok (.getfield 24, 3) := by decide +kernel
theorem dX10_many_68 : decode cX10_many 68 = .ok (.getfield 161, 3) := by decide +kernel
theorem dX10_many_71 : decode cX10_many 71 = .ok (.ireturn, 1) := by decide +kernel
theorem dX10_many_72 : decode cX10_many 72 = .ok (.aload_n 0, 1) := by decide +kernel
theorem dX10_many_73 : decode cX10_many 73 = .ok (.getfield 31, 3) := by decide +kernel
theorem dX10_many_76 : decode cX10_many 76 = .ok (.getfield 138, 3) := by decide +kernel
theorem dX10_many_79 : decode cX10_many 79 = .ok (.ireturn, 1) := by decide +kernel
theorem dX10_many_80 : decode cX10_many 80 = .ok (.aload_n 0, 1) := by decide +kernel
theorem dX10_many_81 : decode cX10_many 81 = .ok (.getfield 45, 3) := by decide +kernel
theorem dX10_many_84 : decode cX10_many 84 = .ok (.invokevirtual 309, 3) := by decide +kernel
theorem dX10_many_87 : decode cX10_many 87 = .ok (.ifCond .eq 7, 3) := by decide +kernel
theorem dX10_many_90 : decode cX10_many 90 = .ok (.iconst 1, 1) := by decide +kernel
theorem dX10_many_91 : decode cX10_many 91 = .ok (.goto 4, 3) := by decide +kernel
theorem dX10_many_94 : decode cX10_many 94 = .ok (.iconst 0, 1) := by decide +kernel
theorem dX10_many_95 : decode cX10_many 95 = .ok (.ireturn, 1) := by decide +kernel
theorem dX10_many_96 : decode cX10_many 96 = .ok (.iconst (-1), 1) := by decide +kernel
theorem dX10_many_97 : decode cX10_many 97 = .ok (.ireturn, 1) := by decide +kernel
theorem dX10_keep_0 : decode cX10_keep 0 = .ok (.aload_n 0, 1) := by decide +kernel
theorem dX10_keep_1 : decode cX10_keep 1 = .ok (.getfield 18, 3) := by decide +kernel
theorem dX10_keep_4 : decode cX10_keep 4 = .ok (.aload_n 0, 1) := by decide +kernel
theorem dX10_keep_5 : decode cX10_keep 5 = .ok (.getfield 14, 3) := by decide +kernel
theorem dX10_keep_8 : decode cX10_keep 8 = .ok (.invokevirtual 313, 3) := by decide +kernel
theorem dX10_keep_11 : decode cX10_keep 11 = .ok (.aload_n 0, 1) := by decide +kernel
theorem dX10_keep_12 : decode cX10_keep 12 = .ok (.aload_n 0, 1) := by decide +kernel
theorem dX10_keep_13 : decode cX10_keep 13 = .ok (.getfield 91, 3) := by decide +kernel
theorem dX10_keep_16 : decode cX10_keep 16 = .ok (.putfield 87, 3) := by decide +kernel
theorem dX10_keep_19 : decode cX10_keep 19 = .ok (.aload_n 0, 1) := by decide +kernel
theorem dX10_keep_20 : decode cX10_keep 20 = .ok (.iconst 1, 1) := by decide +kernel
theorem dX10_keep_21 : decode cX10_keep 21 = .ok (.putfield 83, 3) := by decide +kernel
theorem dX10_keep_24 : decode cX10_keep 24 = .ok (.iconst 1, 1) := by decide +kernel
theorem dX10_keep_25 : decode cX10_keep 25 = .ok (.ireturn, 1) := by decide +kernel
theorem dX10_again_0 : decode cX10_again 0 = .ok (.aload_n 0, 1) := by decide +kernel
theorem dX10_again_1 : decode cX10_again 1 = .ok (.getfield 83, 3) := by decide +kernel
theorem dX10_again_4 : decode cX10_again 4 = .ok (.ifCond .ne 6, 3) := by decide +kernel
theorem dX10_again_7 : decode cX10_again 7 = .ok (.bipush (-3), 2) := by decide +kernel
theorem dX10_again_9 : decode cX10_again 9 = .ok (.ireturn, 1) := by decide +kernel
theorem dX10_again_10 : decode cX10_again 10 = .ok (.aload_n 0, 1) := by decide +kernel
theorem dX10_again_11 : decode cX10_again 11 = .ok (.getfield 14, 3) := by decide +kernel
theorem dX10_again_14 : decode cX10_again 14 = .ok (.aload_n 0, 1) := by decide +kernel
theorem dX10_again_15 : decode cX10_again 15 = .ok (.getfield 18, 3) := by decide +kernel
theorem dX10_again_18 : decode cX10_again 18 = .ok (.invokevirtual 313, 3) := by decide +kernel
theorem dX10_again_21 : decode cX10_again 21 = .ok (.aload_n 0, 1) := by decide +kernel
theorem dX10_again_22 : decode cX10_again 22 = .ok (.aload_n 0, 1) := by decide +kernel
theorem dX10_again_23 : decode cX10_again 23 = .ok (.getfield 87, 3) := by decide +kernel
theorem dX10_again_26 : decode cX10_again 26 = .ok (.putfield 91, 3) := by decide +kernel
theorem dX10_again_29 : decode cX10_again 29 = .ok (.aload_n 0, 1) := by decide +kernel
theorem dX10_again_30 : decode cX10_again 30 = .ok (.getfield 24, 3) := by decide +kernel
theorem dX10_again_33 : decode cX10_again 33 = .ok (.invokevirtual 315, 3) := by decide +kernel
theorem dX10_again_36 : decode cX10_again 36 = .ok (.aload_n 0, 1) := by decide +kernel
theorem dX10_again_37 : decode cX10_again 37 = .ok (.invokevirtual 110, 3) := by decide +kernel
theorem dX10_again_40 : decode cX10_again 40 = .ok (.aload_n 0, 1) := by decide +kernel
theorem dX10_again_41 : decode cX10_again 41 = .ok (.getfield 14, 3) := by decide +kernel
theorem dX10_again_44 : decode cX10_again 44 = .ok (.getfield 103, 3) := by decide +kernel
theorem dX10_again_47 : decode cX10_again 47 = .ok (.ireturn, 1) := by decide +kernel
theorem dX10_isStep_0 : decode cX10_isStep 0 = .ok (.iload_n 0, 1) := by decide +kernel
theorem dX10_isStep_1 : decode cX10_isStep 1 = .ok (.ifCond .lt 29, 3) := by decide +kernel
theorem dX10_isStep_4 : decode cX10_isStep 4 = .ok (.iload_n 0, 1) := by decide +kernel
theorem dX10_isStep_5 : decode cX10_isStep 5 = .ok (.iconst 4, 1) := by decide +kernel
theorem dX10_isStep_6 : decode cX10_isStep 6 = .ok (.if_icmp .gt 24, 3) := by decide +kernel
theorem dX10_isStep_9 : decode cX10_isStep 9 = .ok (.iload_n 1, 1) := by decide +kernel
theorem dX10_isStep_10 : decode cX10_isStep 10 = .ok (.ifCond .lt 20, 3) := by decide +kernel
theorem dX10_isStep_13 : decode cX10_isStep 13 = .ok (.iload_n 1, 1) := by decide +kernel
theorem dX10_isStep_14 : decode cX10_isStep 14 = .ok (.iconst 4, 1) := by decide +kernel
theorem dX10_isStep_15 : decode cX10_isStep 15 = .ok (.if_icmp .gt 15, 3) := by decide +kernel
theorem dX10_isStep_18 : decode cX10_isStep 18 = .ok (.iload_n 0, 1) := by decide +kernel
theorem dX10_isStep_19 : decode cX10_isStep 19 = .ok (.ifCond .gt 7, 3) := by decide +kernel
theorem dX10_isStep_22 : decode cX10_isStep 22 = .ok (.iload_n 1, 1) := by decide +kernel
theorem dX10_isStep_23 : decode cX10_isStep 23 = .ok (.ifCond .le 7, 3) := by decide +kernel
theorem dX10_isStep_26 : decode cX10_isStep 26 = .ok (.iconst 1, 1) := by decide +kernel
theorem dX10_isStep_27 : decode cX10_isStep 27 = .ok (.goto 4, 3) := by decide +kernel
theorem dX10_isStep_30 : decode cX10_isStep 30 = .ok (.iconst 0, 1) := by decide +kernel
theorem dX10_isStep_31 : decode cX10_isStep 31 = .ok (.ireturn, 1) := by decide +kernel
theorem dX10_isPoint_0 : decode cX10_isPoint 0 = .ok (.iload_n 0, 1) := by decide +kernel
theorem dX10_isPoint_1 : decode cX10_isPoint 1 = .ok (.ifCond .lt 21, 3) := by decide +kernel
theorem dX10_isPoint_4 : decode cX10_isPoint 4 = .ok (.iload_n 0, 1) := by decide +kernel
theorem dX10_isPoint_5 : decode cX10_isPoint 5 = .ok (.iload_n 2, 1) := by decide +kernel
theorem dX10_isPoint_6 : decode cX10_isPoint 6 = .ok (.if_icmp .gt 16, 3) := by decide +kernel
theorem dX10_isPoint_9 : decode cX10_isPoint 9 = .ok (.iload_n 1, 1) := by decide +kernel
theorem dX10_isPoint_10 : decode cX10_isPoint 10 = .ok (.ifCond .lt 12, 3) := by decide +kernel
theorem dX10_isPoint_13 : decode cX10_isPoint 13 = .ok (.iload_n 1, 1) := by decide +kernel
theorem dX10_isPoint_14 : decode cX10_isPoint 14 = .ok (.iload_n 2, 1) := by decide +kernel
theorem dX10_isPoint_15 : decode cX10_isPoint 15 = .ok (.if_icmp .gt 7, 3) := by decide +kernel
theorem dX10_isPoint_18 : decode cX10_isPoint 18 = .ok (.iconst 1, 1) := by decide +kernel
theorem dX10_isPoint_19 : decode cX10_isPoint 19 = .ok (.goto 4, 3) := by decide +kernel
theorem dX10_isPoint_22 : decode cX10_isPoint 22 = .ok (.iconst 0, 1) := by decide +kernel
theorem dX10_isPoint_23 : decode cX10_isPoint 23 = .ok (.ireturn, 1) := by decide +kernel
theorem dX10_isSpot_0 : decode cX10_isSpot 0 = .ok (.iload_n 0, 1) := by decide +kernel
theorem dX10_isSpot_1 : decode cX10_isSpot 1 = .ok (.bipush (-60), 2) := by decide +kernel
theorem dX10_isSpot_3 : decode cX10_isSpot 3 = .ok (.if_icmp .lt 25, 3) := by decide +kernel
theorem dX10_isSpot_6 : decode cX10_isSpot 6 = .ok (.iload_n 0, 1) := by decide +kernel
theorem dX10_isSpot_7 : decode cX10_isSpot 7 = .ok (.bipush 60, 2) := by decide +kernel
theorem dX10_isSpot_9 : decode cX10_isSpot 9 = .ok (.if_icmp .gt 19, 3) := by decide +kernel
theorem dX10_isSpot_12 : decode cX10_isSpot 12 = .ok (.iload_n 1, 1) := by decide +kernel
theorem dX10_isSpot_13 : decode cX10_isSpot 13 = .ok (.bipush (-60), 2) := by decide +kernel
theorem dX10_isSpot_15 : decode cX10_isSpot 15 = .ok (.if_icmp .lt 13, 3) := by decide +kernel
theorem dX10_isSpot_18 : decode cX10_isSpot 18 = .ok (.iload_n 1, 1) := by decide +kernel
theorem dX10_isSpot_19 : decode cX10_isSpot 19 = .ok (.bipush 60, 2) := by decide +kernel
theorem dX10_isSpot_21 : decode cX10_isSpot 21 = .ok (.if_icmp .gt 7, 3) := by decide +kernel
theorem dX10_isSpot_24 : decode cX10_isSpot 24 = .ok (.iconst 1, 1) := by decide +kernel
theorem dX10_isSpot_25 : decode cX10_isSpot 25 = .ok (.goto 4, 3) := by decide +kernel
theorem dX10_isSpot_28 : decode cX10_isSpot 28 = .ok (.iconst 0, 1) := by decide +kernel
theorem dX10_isSpot_29 : decode cX10_isSpot 29 = .ok (.ireturn, 1) := by decide +kernel
theorem dX10_comes_0 : decode cX10_comes 0 = .ok (.aload_n 0, 1) := by decide +kernel
theorem dX10_comes_1 : decode cX10_comes 1 = .ok (.getfield 14, 3) := by decide +kernel
theorem dX10_comes_4 : decode cX10_comes 4 = .ok (.getfield 103, 3) := by decide +kernel
theorem dX10_comes_7 : decode cX10_comes 7 = .ok (.bipush 6, 2) := by decide +kernel
theorem dX10_comes_9 : decode cX10_comes 9 = .ok (.if_icmp .lt 6, 3) := by decide +kernel
theorem dX10_comes_12 : decode cX10_comes 12 = .ok (.bipush (-2), 2) := by decide +kernel
theorem dX10_comes_14 : decode cX10_comes 14 = .ok (.ireturn, 1) := by decide +kernel
theorem dX10_comes_15 : decode cX10_comes 15 = .ok (.aload_n 0, 1) := by decide +kernel
theorem dX10_comes_16 : decode cX10_comes 16 = .ok (.getfield 24, 3) := by decide +kernel
theorem dX10_comes_19 : decode cX10_comes 19 = .ok (.aload_n 0, 1) := by decide +kernel
theorem dX10_comes_20 : decode cX10_comes 20 = .ok (.getfield 14, 3) := by decide +kernel
theorem dX10_comes_23 : decode cX10_comes 23 = .ok (.invokevirtual 106, 3) := by decide +kernel
theorem dX10_comes_26 : decode cX10_comes 26 = .ok (.aload_n 0, 1) := by decide +kernel
theorem dX10_comes_27 : decode cX10_comes 27 = .ok (.getfield 14, 3) := by decide +kernel
theorem dX10_comes_30 : decode cX10_comes 30 = .ok (.iload_n 1, 1) := by decide +kernel
theorem dX10_comes_31 : decode cX10_comes 31 = .ok (.iload_n 2, 1) := by decide +kernel
theorem dX10_comes_32 : decode cX10_comes 32 = .ok (.invokevirtual 318, 3) := by decide +kernel
theorem dX10_comes_35 : decode cX10_comes 35 = .ok (.aload_n 0, 1) := by decide +kernel
theorem dX10_comes_36 : decode cX10_comes 36 = .ok (.invokevirtual 110, 3) := by decide +kernel
theorem dX10_comes_39 : decode cX10_comes 39 = .ok (.aload_n 0, 1) := by decide +kernel
theorem dX10_comes_40 : decode cX10_comes 40 = .ok (.getfield 14, 3) := by decide +kernel
theorem dX10_comes_43 : decode cX10_comes 43 = .ok (.getfield 103, 3) := by decide +kernel
theorem dX10_comes_46 : decode cX10_comes 46 = .ok (.iconst 1, 1) := by decide +kernel
theorem dX10_comes_47 : decode cX10_comes 47 = .ok (.isub, 1) := by decide +kernel
theorem dX10_comes_48 : decode cX10_comes 48 = .ok (.ireturn, 1) := by decide +kernel
theorem dX10_partsChanged_0 : decode cX10_partsChanged 0 = .ok (.aload_n 0, 1) := by decide +kernel
theorem dX10_partsChanged_1 : decode cX10_partsChanged 1 = .ok (.getfield 45, 3) := by decide +kernel
theorem dX10_partsChanged_4 : decode cX10_partsChanged 4 = .ok (.aload_n 0, 1) := by decide +kernel
theorem dX10_partsChanged_5 : decode cX10_partsChanged 5 = .ok (.getfield 14, 3) := by decide +kernel
theorem dX10_partsChanged_8 : decode cX10_partsChanged 8 = .ok (.invokevirtual 321, 3) := by decide +kernel
theorem dX10_partsChanged_11 : decode cX10_partsChanged 11 = .ok (.aload_n 0, 1) := by decide +kernel
theorem dX10_partsChanged_12 : decode cX10_partsChanged 12 = .ok (.getfield 52, 3) := by decide +kernel
theorem dX10_partsChanged_15 : decode cX10_partsChanged 15 = .ok (.invokevirtual 324, 3) := by decide +kernel
theorem dX10_partsChanged_18 : decode cX10_partsChanged 18 = .ok (.aload_n 0, 1) := by decide +kernel
theorem dX10_partsChanged_19 : decode cX10_partsChanged 19 = .ok (.getfield 59, 3) := by decide +kernel
theorem dX10_partsChanged_22 : decode cX10_partsChanged 22 = .ok (.invokevirtual 325, 3) := by decide +kernel
theorem dX10_partsChanged_25 : decode cX10_partsChanged 25 = .ok (.return_, 1) := by decide +kernel
theorem dX10_hasFormula_0 : decode cX10_hasFormula 0 = .ok (.aload_n 0, 1) := by decide +kernel
theorem dX10_hasFormula_1 : decode cX10_hasFormula 1 = .ok (.getfield 45, 3) := by decide +kernel
theorem dX10_hasFormula_4 : decode cX10_hasFormula 4 = .ok (.invokevirtual 309, 3) := by decide +kernel
theorem dX10_hasFormula_7 : decode cX10_hasFormula 7 = .ok (.ifCond .eq 22, 3) := by decide +kernel
theorem dX10_hasFormula_10 : decode cX10_hasFormula 10 = .ok (.iload_n 1, 1) := by decide +kernel
theorem dX10_hasFormula_11 : decode cX10_hasFormula 11 = .ok (.ifCond .lt 18, 3) := by decide +kernel
theorem dX10_hasFormula_14 : decode cX10_hasFormula 14 = .ok (.iload_n 1, 1) := by decide +kernel
theorem dX10_hasFormula_15 : decode cX10_hasFormula 15 = .ok (.aload_n 0, 1) := by decide +kernel
theorem dX10_hasFormula_16 : decode cX10_hasFormula 16 = .ok (.getfield 45, 3) := by decide +kernel
theorem dX10_hasFormula_19 : decode cX10_hasFormula 19 = .ok (.invokevirtual 213, 3) := by decide +kernel
theorem dX10_hasFormula_22 : decode cX10_hasFormula 22 = .ok (.if_icmp .ge 7, 3) := by decide +kernel
theorem dX10_hasFormula_25 : decode cX10_hasFormula 25 = .ok (.iconst 1, 1) := by decide +kernel
theorem dX10_hasFormula_26 : decode cX10_hasFormula 26 = .ok (.goto 4, 3) := by decide +kernel
theorem dX10_hasFormula_29 : decode cX10_hasFormula 29 = .ok (.iconst 0, 1) := by decide +kernel
theorem dX10_hasFormula_30 : decode cX10_hasFormula 30 = .ok (.ireturn, 1) := by decide +kernel
theorem dX10_readyFormula_0 : decode cX10_readyFormula 0 = .ok (.aload_n 0, 1) := by decide +kernel
theorem dX10_readyFormula_1 : decode cX10_readyFormula 1 = .ok (.getfield 73, 3) := by decide +kernel
theorem dX10_readyFormula_4 : decode cX10_readyFormula 4 = .ok (.aload_n 0, 1) := by decide +kernel
theorem dX10_readyFormula_5 : decode cX10_readyFormula 5 = .ok (.getfield 45, 3) := by decide +kernel
theorem dX10_readyFormula_8 : decode cX10_readyFormula 8 = .ok (.iload_n 1, 1) := by decide +kernel
theorem dX10_readyFormula_9 : decode cX10_readyFormula 9 = .ok (.iload_n 2, 1) := by decide +kernel
theorem dX10_readyFormula_10 : decode cX10_readyFormula 10 = .ok (.iload_n 3, 1) := by decide +kernel
theorem dX10_readyFormula_11 : decode cX10_readyFormula 11 = .ok (.invokevirtual 226, 3) := by decide +kernel
theorem dX10_readyFormula_14 : decode cX10_readyFormula 14 = .ok (.aload_n 0, 1) := by decide +kernel
theorem dX10_readyFormula_15 : decode cX10_readyFormula 15 = .ok (.getfield 14, 3) := by decide +kernel
theorem dX10_readyFormula_18 : decode cX10_readyFormula 18 = .ok (.getfield 103, 3) := by decide +kernel
theorem dX10_readyFormula_21 : decode cX10_readyFormula 21 = .ok (.iconst 2, 1) := by decide +kernel
theorem dX10_readyFormula_22 : decode cX10_readyFormula 22 = .ok (.isub, 1) := by decide +kernel
theorem dX10_readyFormula_23 : decode cX10_readyFormula 23 = .ok (.istore 4, 2) := by decide +kernel
theorem dX10_readyFormula_25 : decode cX10_readyFormula 25 = .ok (.aload_n 0, 1) := by decide +kernel
theorem dX10_readyFormula_26 : decode cX10_readyFormula 26 = .ok (.getfield 52, 3) := by decide +kernel
theorem dX10_readyFormula_29 : decode cX10_readyFormula 29 = .ok (.aload_n 0, 1) := by decide +kernel
theorem dX10_readyFormula_30 : decode cX10_readyFormula 30 = .ok (.getfield 73, 3) := by decide +kernel
theorem dX10_readyFormula_33 : decode cX10_readyFormula 33 = .ok (.iload 4, 2) := by decide +kernel
theorem dX10_readyFormula_35 : decode cX10_readyFormula 35 = .ok (.invokevirtual 326, 3) := by decide +kernel
theorem dX10_readyFormula_38 : decode cX10_readyFormula 38 = .ok (.aload_n 0, 1) := by decide +kernel
theorem dX10_readyFormula_39 : decode cX10_readyFormula 39 = .ok (.getfield 73, 3) := by decide +kernel
theorem dX10_readyFormula_42 : decode cX10_readyFormula 42 = .ok (.iload 4, 2) := by decide +kernel
theorem dX10_readyFormula_44 : decode cX10_readyFormula 44 = .ok (.invokevirtual 329, 3) := by decide +kernel
theorem dX10_readyFormula_47 : decode cX10_readyFormula 47 = .ok (.aload_n 0, 1) := by decide +kernel
theorem dX10_readyFormula_48 : decode cX10_readyFormula 48 = .ok (.getfield 14, 3) := by decide +kernel
theorem dX10_readyFormula_51 : decode cX10_readyFormula 51 = .ok (.invokevirtual 178, 3) := by decide +kernel
theorem dX10_readyFormula_54 : decode cX10_readyFormula 54 = .ok (.return_, 1) := by decide +kernel
theorem dX10_sheetAt_0 : decode cX10_sheetAt 0 = .ok (.iload_n 1, 1) := by decide +kernel
theorem dX10_sheetAt_1 : decode cX10_sheetAt 1 = .ok (.ifCond .lt 17, 3) := by decide +kernel
theorem dX10_sheetAt_4 : decode cX10_sheetAt 4 = .ok (.iload_n 1, 1) := by decide +kernel
theorem dX10_sheetAt_5 : decode cX10_sheetAt 5 = .ok (.iconst 4, 1) := by decide +kernel
theorem dX10_sheetAt_6 : decode cX10_sheetAt 6 = .ok (.if_icmp .ge 12, 3) := by decide +kernel
theorem dX10_sheetAt_9 : decode cX10_sheetAt 9 = .ok (.aload_n 0, 1) := by decide +kernel
theorem dX10_sheetAt_10 : decode cX10_sheetAt 10 = .ok (.getfield 79, 3) := by decide +kernel
theorem dX10_sheetAt_13 : decode cX10_sheetAt 13 = .ok (.iload_n 1, 1) := by decide +kernel
theorem dX10_sheetAt_14 : decode cX10_sheetAt 14 = .ok (.aaload, 1) := by decide +kernel
theorem dX10_sheetAt_15 : decode cX10_sheetAt 15 = .ok (.goto 4, 3) := by decide +kernel
theorem dX10_sheetAt_18 : decode cX10_sheetAt 18 = .ok (.aconst_null, 1) := by decide +kernel
theorem dX10_sheetAt_19 : decode cX10_sheetAt 19 = .ok (.areturn, 1) := by decide +kernel
theorem dX10_tableRefusal_0 : decode cX10_tableRefusal 0 = .ok (.aload_n 0, 1) := by decide +kernel
theorem dX10_tableRefusal_1 : decode cX10_tableRefusal 1 = .ok (.ifnull 14, 3) := by decide +kernel
theorem dX10_tableRefusal_4 : decode cX10_tableRefusal 4 = .ok (.iload_n 1, 1) := by decide +kernel
theorem dX10_tableRefusal_5 : decode cX10_tableRefusal 5 = .ok (.iconst 1, 1) := by decide +kernel
theorem dX10_tableRefusal_6 : decode cX10_tableRefusal 6 = .ok (.if_icmp .lt 9, 3) := by decide +kernel
theorem dX10_tableRefusal_9 : decode cX10_tableRefusal 9 = .ok (.iload_n 1, 1) := by decide +kernel
theorem dX10_tableRefusal_10 : decode cX10_tableRefusal 10 = .ok (.bipush 10, 2) := by decide +kernel
theorem dX10_tableRefusal_12 : decode cX10_tableRefusal 12 = .ok (.if_icmp .le 5, 3) := by decide +kernel
theorem dX10_tableRefusal_15 : decode cX10_tableRefusal 15 = .ok (.iconst (-1), 1) := by decide +kernel
theorem dX10_tableRefusal_16 : decode cX10_tableRefusal 16 = .ok (.ireturn, 1) := by decide +kernel
theorem dX10_tableRefusal_17 : decode cX10_tableRefusal 17 = .ok (.aload_n 0, 1) := by decide +kernel
theorem dX10_tableRefusal_18 : decode cX10_tableRefusal 18 = .ok (.getfield 265, 3) := by decide +kernel
theorem dX10_tableRefusal_21 : decode cX10_tableRefusal 21 = .ok (.iconst (-1), 1) := by decide +kernel
theorem dX10_tableRefusal_22 : decode cX10_tableRefusal 22 = .ok (.if_icmp .ne 6, 3) := by decide +kernel
theorem dX10_tableRefusal_25 : decode cX10_tableRefusal 25 = .ok (.bipush (-11), 2) := by decide +kernel
theorem dX10_tableRefusal_27 : decode cX10_tableRefusal 27 = .ok (.ireturn, 1) := by decide +kernel
theorem dX10_tableRefusal_28 : decode cX10_tableRefusal 28 = .ok (.aload_n 0, 1) := by decide +kernel
theorem dX10_tableRefusal_29 : decode cX10_tableRefusal 29 = .ok (.getfield 265, 3) := by decide +kernel
theorem dX10_tableRefusal_32 : decode cX10_tableRefusal 32 = .ok (.iconst 2, 1) := by decide +kernel
theorem dX10_tableRefusal_33 : decode cX10_tableRefusal 33 = .ok (.if_icmp .ne 8, 3) := by decide +kernel
theorem dX10_tableRefusal_36 : decode cX10_tableRefusal 36 = .ok (.bipush (-13), 2) := by decide +kernel
theorem dX10_tableRefusal_38 : decode cX10_tableRefusal 38 = .ok (.goto 4, 3) := by decide +kernel
theorem dX10_tableRefusal_41 : decode cX10_tableRefusal 41 = .ok (.iconst 0, 1) := by decide +kernel
theorem dX10_tableRefusal_42 : decode cX10_tableRefusal 42 = .ok (.ireturn, 1) := by decide +kernel
theorem dX10_waysAtPlace_0 : decode cX10_waysAtPlace 0 = .ok (.iload_n 2, 1) := by decide +kernel
theorem dX10_waysAtPlace_1 : decode cX10_waysAtPlace 1 = .ok (.iconst 1, 1) := by decide +kernel
theorem dX10_waysAtPlace_2 : decode cX10_waysAtPlace 2 = .ok (.if_icmp .ge 7, 3) := by decide +kernel
theorem dX10_waysAtPlace_5 : decode cX10_waysAtPlace 5 = .ok (.lconst 0, 1) := by decide +kernel
theorem dX10_waysAtPlace_6 : decode cX10_waysAtPlace 6 = .ok (.goto 17, 3) := by decide +kernel
theorem dX10_waysAtPlace_9 : decode cX10_waysAtPlace 9 = .ok (.aload_n 0, 1) := by decide +kernel
theorem dX10_waysAtPlace_10 : decode cX10_waysAtPlace 10 = .ok (.getfield 59, 3) := by decide +kernel
theorem dX10_waysAtPlace_13 : decode cX10_waysAtPlace 13 = .ok (.iconst 0, 1) := by decide +kernel
theorem dX10_waysAtPlace_14 : decode cX10_waysAtPlace 14 = .ok (.iload_n 1, 1) := by decide +kernel
theorem dX10_waysAtPlace_15 : decode cX10_waysAtPlace 15 = .ok (.iload_n 2, 1) := by decide +kernel
theorem dX10_waysAtPlace_16 : decode cX10_waysAtPlace 16 = .ok (.irem, 1) := by decide +kernel
theorem dX10_waysAtPlace_17 : decode cX10_waysAtPlace 17 = .ok (.iload_n 1, 1) := by decide +kernel
theorem dX10_waysAtPlace_18 : decode cX10_waysAtPlace 18 = .ok (.iload_n 2, 1) := by decide +kernel
theorem dX10_waysAtPlace_19 : decode cX10_waysAtPlace 19 = .ok (.idiv, 1) := by decide +kernel
theorem dX10_waysAtPlace_20 : decode cX10_waysAtPlace 20 = .ok (.invokevirtual 174, 3) := by decide +kernel
theorem dX10_waysAtPlace_23 : decode cX10_waysAtPlace 23 = .ok (.lreturn, 1) := by decide +kernel
theorem dX10_isTableWith_0 : decode cX10_isTableWith 0 = .ok (.iload_n 2, 1) := by decide +kernel
theorem dX10_isTableWith_1 : decode cX10_isTableWith 1 = .ok (.iconst 1, 1) := by decide +kernel
theorem dX10_isTableWith_2 : decode cX10_isTableWith 2 = .ok (.if_icmp .ge 5, 3) := by decide +kernel
theorem dX10_isTableWith_5 : decode cX10_isTableWith 5 = .ok (.iconst 0, 1) := by decide +kernel
theorem dX10_isTableWith_6 : decode cX10_isTableWith 6 = .ok (.ireturn, 1) := by decide +kernel
theorem dX10_isTableWith_7 : decode cX10_isTableWith 7 = .ok (.iconst 0, 1) := by decide +kernel
theorem dX10_isTableWith_8 : decode cX10_isTableWith 8 = .ok (.istore 5, 2) := by decide +kernel
theorem dX10_isTableWith_10 : decode cX10_isTableWith 10 = .ok (.iload 5, 2) := by decide +kernel
theorem dX10_isTableWith_12 : decode cX10_isTableWith 12 = .ok (.aload_n 1, 1) := by decide +kernel
theorem dX10_isTableWith_13 : decode cX10_isTableWith 13 = .ok (.getfield 286, 3) := by decide +kernel
theorem dX10_isTableWith_16 : decode cX10_isTableWith 16 = .ok (.if_icmp .ge 47, 3) := by decide +kernel
theorem dX10_isTableWith_19 : decode cX10_isTableWith 19 = .ok (.iload 5, 2) := by decide +kernel
theorem dX10_isTableWith_21 : decode cX10_isTableWith 21 = .ok (.bipush 60, 2) := by decide +kernel
theorem dX10_isTableWith_23 : decode cX10_isTableWith 23 = .ok (.if_icmp .ge 40, 3) := by decide +kernel
theorem dX10_isTableWith_26 : decode cX10_isTableWith 26 = .ok (.aload_n 1, 1) := by decide +kernel
theorem dX10_isTableWith_27 : decode cX10_isTableWith 27 = .ok (.getfield 271, 3) := by decide +kernel
theorem dX10_isTableWith_30 : decode cX10_isTableWith 30 = .ok (.iload 5, 2) := by decide +kernel
theorem dX10_isTableWith_32 : decode cX10_isTableWith 32 = .ok (.laload, 1) := by decide +kernel
theorem dX10_isTableWith_33 : decode cX10_isTableWith 33 = .ok (.aload_n 0, 1) := by decide +kernel
theorem dX10_isTableWith_34 : decode cX10_isTableWith 34 = .ok (.getfield 52, 3) := by decide +kernel
theorem dX10_isTableWith_37 : decode cX10_isTableWith 37 = .ok (.iload 5, 2) := by decide +kernel
theorem dX10_isTableWith_39 : decode cX10_isTableWith 39 = .ok (.iload_n 2, 1) := by decide +kernel
theorem dX10_isTableWith_40 : decode cX10_isTableWith 40 = .ok (.irem, 1) := by decide +kernel
theorem dX10_isTableWith_41 : decode cX10_isTableWith 41 = .ok (.iload 5, 2) := by decide +kernel
theorem dX10_isTableWith_43 : decode cX10_isTableWith 43 = .ok (.iload_n 2, 1) := by decide +kernel
theorem dX10_isTableWith_44 : decode cX10_isTableWith 44 = .ok (.idiv, 1) := by decide +kernel
theorem dX10_isTableWith_45 : decode cX10_isTableWith 45 = .ok (.iload_n 3, 1) := by decide +kernel
theorem dX10_isTableWith_46 : decode cX10_isTableWith 46 = .ok (.iload 4, 2) := by decide +kernel
theorem dX10_isTableWith_48 : decode cX10_isTableWith 48 = .ok (.invokevirtual 332, 3) := by decide +kernel
theorem dX10_isTableWith_51 : decode cX10_isTableWith 51 = .ok (.lcmp, 1) := by decide +kernel
theorem dX10_isTableWith_52 : decode cX10_isTableWith 52 = .ok (.ifCond .eq 5, 3) := by decide +kernel
theorem dX10_isTableWith_55 : decode cX10_isTableWith 55 = .ok (.iconst 0, 1) := by decide +kernel
theorem dX10_isTableWith_56 : decode cX10_isTableWith 56 = .ok (.ireturn, 1) := by decide +kernel
theorem dX10_isTableWith_57 : decode cX10_isTableWith 57 = .ok (.iinc 5 1, 3) := by decide +kernel
theorem dX10_isTableWith_60 : decode cX10_isTableWith 60 = .ok (.goto (-50), 3) := by decide +kernel
theorem dX10_isTableWith_63 : decode cX10_isTableWith 63 = .ok (.iconst 1, 1) := by decide +kernel
theorem dX10_isTableWith_64 : decode cX10_isTableWith 64 = .ok (.ireturn, 1) := by decide +kernel
theorem dX10_drawn_0 : decode cX10_drawn 0 = .ok (.aload_n 0, 1) := by decide +kernel
theorem dX10_drawn_1 : decode cX10_drawn 1 = .ok (.aload_n 0, 1) := by decide +kernel
theorem dX10_drawn_2 : decode cX10_drawn 2 = .ok (.getfield 91, 3) := by decide +kernel
theorem dX10_drawn_5 : decode cX10_drawn 5 = .ok (.ldc_w 336, 3) := by decide +kernel
theorem dX10_drawn_8 : decode cX10_drawn 8 = .ok (.imul, 1) := by decide +kernel
theorem dX10_drawn_9 : decode cX10_drawn 9 = .ok (.sipush 12345, 3) := by decide +kernel
theorem dX10_drawn_12 : decode cX10_drawn 12 = .ok (.iadd, 1) := by decide +kernel
theorem dX10_drawn_13 : decode cX10_drawn 13 = .ok (.putfield 91, 3) := by decide +kernel
theorem dX10_drawn_16 : decode cX10_drawn 16 = .ok (.aload_n 0, 1) := by decide +kernel
theorem dX10_drawn_17 : decode cX10_drawn 17 = .ok (.getfield 91, 3) := by decide +kernel
theorem dX10_drawn_20 : decode cX10_drawn 20 = .ok (.bipush 16, 2) := by decide +kernel
theorem dX10_drawn_22 : decode cX10_drawn 22 = .ok (.iushr, 1) := by decide +kernel
theorem dX10_drawn_23 : decode cX10_drawn 23 = .ok (.ireturn, 1) := by decide +kernel
theorem dX11_init_0 : decode cX11_init 0 = .ok (.aload_n 0, 1) := by decide +kernel
theorem dX11_init_1 : decode cX11_init 1 = .ok (.invokespecial 3, 3) := by decide +kernel
theorem dX11_init_4 : decode cX11_init 4 = .ok (.aload_n 0, 1) := by decide +kernel
theorem dX11_init_5 : decode cX11_init 5 = .ok (.iconst 1, 1) := by decide +kernel
theorem dX11_init_6 : decode cX11_init 6 = .ok (.putfield 9, 3) := by decide +kernel
theorem dX11_init_9 : decode cX11_init 9 = .ok (.aload_n 0, 1) := by decide +kernel
theorem dX11_init_10 : decode cX11_init 10 = .ok (.bipush 6, 2) := by decide +kernel
theorem dX11_init_12 : decode cX11_init 12 = .ok (.newarray .int, 2) := by decide +kernel
theorem dX11_init_14 : decode cX11_init 14 = .ok (.putfield 15, 3) := by decide +kernel
theorem dX11_init_17 : decode cX11_init 17 = .ok (.aload_n 0, 1) := by decide +kernel
theorem dX11_init_18 : decode cX11_init 18 = .ok (.bipush 6, 2) := by decide +kernel
theorem dX11_init_20 : decode cX11_init 20 = .ok (.newarray .int, 2) := by decide +kernel
theorem dX11_init_22 : decode cX11_init 22 = .ok (.putfield 19, 3) := by decide +kernel
theorem dX11_init_25 : decode cX11_init 25 = .ok (.aload_n 0, 1) := by decide +kernel
theorem dX11_init_26 : decode cX11_init 26 = .ok (.bipush 6, 2) := by decide +kernel
theorem dX11_init_28 : decode cX11_init 28 = .ok (.newarray .int, 2) := by decide +kernel
theorem dX11_init_30 : decode cX11_init 30 = .ok (.putfield 22, 3) := by decide +kernel
theorem dX11_init_33 : decode cX11_init 33 = .ok (.aload_n 0, 1) := by decide +kernel
theorem dX11_init_34 : decode cX11_init 34 = .ok (.bipush 6, 2) := by decide +kernel
theorem dX11_init_36 : decode cX11_init 36 = .ok (.newarray .long, 2) := by decide +kernel
theorem dX11_init_38 : decode cX11_init 38 = .ok (.putfield 25, 3) := by decide +kernel
theorem dX11_init_41 : decode cX11_init 41 = .ok (.aload_n 0, 1) := by decide +kernel
theorem dX11_init_42 : decode cX11_init 42 = .ok (.bipush 6, 2) := by decide +kernel
theorem dX11_init_44 : decode cX11_init 44 = .ok (.newarray .int, 2) := by decide +kernel
theorem dX11_init_46 : decode cX11_init 46 = .ok (.putfield 29, 3) := by decide +kernel
theorem dX11_init_49 : decode cX11_init 49 = .ok (.aload_n 0, 1) := by decide +kernel
theorem dX11_init_50 : decode cX11_init 50 = .ok (.bipush 6, 2) := by decide +kernel
theorem dX11_init_52 : decode cX11_init 52 = .ok (.newarray .int, 2) := by decide +kernel
theorem dX11_init_54 : decode cX11_init 54 = .ok (.putfield 32, 3) := by decide +kernel
theorem dX11_init_57 : decode cX11_init 57 = .ok (.aload_n 0, 1) := by decide +kernel
theorem dX11_init_58 : decode cX11_init 58 = .ok (.bipush 6, 2) := by decide +kernel
theorem dX11_init_60 : decode cX11_init 60 = .ok (.newarray .int, 2) := by decide +kernel
theorem dX11_init_62 : decode cX11_init 62 = .ok (.putfield 35, 3) := by decide +kernel
theorem dX11_init_65 : decode cX11_init 65 = .ok (.aload_n 0, 1) := by decide +kernel
theorem dX11_init_66 : decode cX11_init 66 = .ok (.bipush 6, 2) := by decide +kernel
theorem dX11_init_68 : decode cX11_init 68 = .ok (.newarray .long, 2) := by decide +kernel
theorem dX11_init_70 : decode cX11_init 70 = .ok (.putfield 38, 3) := by decide +kernel
theorem dX11_init_73 : decode cX11_init 73 = .ok (.aload_n 0, 1) := by decide +kernel
theorem dX11_init_74 : decode cX11_init 74 = .ok (.bipush 30, 2) := by decide +kernel
theorem dX11_init_76 : decode cX11_init 76 = .ok (.newarray .int, 2) := by decide +kernel
theorem dX11_init_78 : decode cX11_init 78 = .ok (.putfield 41, 3) := by decide +kernel
theorem dX11_init_81 : decode cX11_init 81 = .ok (.aload_n 0, 1) := by decide +kernel
theorem dX11_init_82 : decode cX11_init 82 = .ok (.bipush 30, 2) := by decide +kernel
theorem dX11_init_84 : decode cX11_init 84 = .ok (.newarray .int, 2) := by decide +kernel
theorem dX11_init_86 : decode cX11_init 86 = .ok (.putfield 44, 3) := by decide +kernel
theorem dX11_init_89 : decode cX11_init 89 = .ok (.aload_n 0, 1) := by decide +kernel
theorem dX11_init_90 : decode cX11_init 90 = .ok (.bipush 30, 2) := by decide +kernel
theorem dX11_init_92 : decode cX11_init 92 = .ok (.newarray .int, 2) := by decide +kernel
theorem dX11_init_94 : decode cX11_init 94 = .ok (.putfield 47, 3) := by decide +kernel
theorem dX11_init_97 : decode cX11_init 97 = .ok (.aload_n 0, 1) := by decide +kernel
theorem dX11_init_98 : decode cX11_init 98 = .ok (.bipush 30, 2) := by decide +kernel
theorem dX11_init_100 : decode cX11_init 100 = .ok (.newarray .int, 2) := by decide +kernel
theorem dX11_init_102 : decode cX11_init 102 = .ok (.putfield 50, 3) := by decide +kernel
theorem dX11_init_105 : decode cX11_init 105 = .ok (.aload_n 0, 1) := by decide +kernel
theorem dX11_init_106 : decode cX11_init 106 = .ok (.bipush 30, 2) := by decide +kernel
theorem dX11_init_108 : decode cX11_init 108 = .ok (.newarray .int, 2) := by decide +kernel
theorem dX11_init_110 : decode cX11_init 110 = .ok (.putfield 53, 3) := by decide +kernel
theorem dX11_init_113 : decode cX11_init 113 = .ok (.aload_n 0, 1) := by decide +kernel
theorem dX11_init_114 : decode cX11_init 114 = .ok (.bipush 30, 2) := by decide +kernel
theorem dX11_init_116 : decode cX11_init 116 = .ok (.newarray .long, 2) := by decide +kernel
theorem dX11_init_118 : decode cX11_init 118 = .ok (.putfield 56, 3) := by decide +kernel
theorem dX11_init_121 : decode cX11_init 121 = .ok (.aload_n 0, 1) := by decide +kernel
theorem dX11_init_122 : decode cX11_init 122 = .ok (.bipush 100, 2) := by decide +kernel
theorem dX11_init_124 : decode cX11_init 124 = .ok (.newarray .int, 2) := by decide +kernel
theorem dX11_init_126 : decode cX11_init 126 = .ok (.putfield 59, 3) := by decide +kernel
theorem dX11_init_129 : decode cX11_init 129 = .ok (.aload_n 0, 1) := by decide +kernel
theorem dX11_init_130 : decode cX11_init 130 = .ok (.sipush 26047, 3) := by decide +kernel
theorem dX11_init_133 : decode cX11_init 133 = .ok (.newarray .long, 2) := by decide +kernel
theorem dX11_init_135 : decode cX11_init 135 = .ok (.putfield 62, 3) := by decide +kernel
theorem dX11_init_138 : decode cX11_init 138 = .ok (.aload_n 0, 1) := by decide +kernel
theorem dX11_init_139 : decode cX11_init 139 = .ok (.sipush 22500, 3) := by decide +kernel
theorem dX11_init_142 : decode cX11_init 142 = .ok (.newarray .long, 2) := by decide +kernel
theorem dX11_init_144 : decode cX11_init 144 = .ok (.putfield 65, 3) := by decide +kernel
theorem dX11_init_147 : decode cX11_init 147 = .ok (.aload_n 0, 1) := by decide +kernel
theorem dX11_init_148 : decode cX11_init 148 = .ok (.bipush 6, 2) := by decide +kernel
theorem dX11_init_150 : decode cX11_init 150 = .ok (.newarray .int, 2) := by decide +kernel
theorem dX11_init_152 : decode cX11_init 152 = .ok (.putfield 68, 3) := by decide +kernel
theorem dX11_init_155 : decode cX11_init 155 = .ok (.aload_n 0, 1) := by decide +kernel
theorem dX11_init_156 : decode cX11_init 156 = .ok (.bipush 6, 2) := by decide +kernel
theorem dX11_init_158 : decode cX11_init 158 = .ok (.newarray .int, 2) := by decide +kernel
theorem dX11_init_160 : decode cX11_init 160 = .ok (.putfield 71, 3) := by decide +kernel
theorem dX11_init_163 : decode cX11_init 163 = .ok (.aload_n 0, 1) := by decide +kernel
theorem dX11_init_164 : decode cX11_init 164 = .ok (.bipush 6, 2) := by decide +kernel
theorem dX11_init_166 : decode cX11_init 166 = .ok (.newarray .int, 2) := by decide +kernel
theorem dX11_init_168 : decode cX11_init 168 = .ok (.putfield 74, 3) := by decide +kernel
theorem dX11_init_171 : decode cX11_init 171 = .ok (.aload_n 0, 1) := by decide +kernel
theorem dX11_init_172 : decode cX11_init 172 = .ok (.iconst 4, 1) := by decide +kernel
theorem dX11_init_173 : decode cX11_init 173 = .ok (.newarray .int, 2) := by decide +kernel
theorem dX11_init_175 : decode cX11_init 175 = .ok (.dup, 1) := by decide +kernel
theorem dX11_init_176 : decode cX11_init 176 = .ok (.iconst 0, 1) := by decide +kernel
theorem dX11_init_177 : decode cX11_init 177 = .ok (.iconst (-1), 1) := by decide +kernel
theorem dX11_init_178 : decode cX11_init 178 = .ok (.iastore, 1) := by decide +kernel
theorem dX11_init_179 : decode cX11_init 179 = .ok (.dup, 1) := by decide +kernel
theorem dX11_init_180 : decode cX11_init 180 = .ok (.iconst 1, 1) := by decide +kernel
theorem dX11_init_181 : decode cX11_init 181 = .ok (.iconst (-1), 1) := by decide +kernel
theorem dX11_init_182 : decode cX11_init 182 = .ok (.iastore, 1) := by decide +kernel
theorem dX11_init_183 : decode cX11_init 183 = .ok (.dup, 1) := by decide +kernel
theorem dX11_init_184 : decode cX11_init 184 = .ok (.iconst 2, 1) := by decide +kernel
theorem dX11_init_185 : decode cX11_init 185 = .ok (.iconst (-1), 1) := by decide +kernel
theorem dX11_init_186 : decode cX11_init 186 = .ok (.iastore, 1) := by decide +kernel
theorem dX11_init_187 : decode cX11_init 187 = .ok (.dup, 1) := by decide +kernel
theorem dX11_init_188 : decode cX11_init 188 = .ok (.iconst 3, 1) := by decide +kernel
theorem dX11_init_189 : decode cX11_init 189 = .ok (.iconst (-1), 1) := by decide +kernel
theorem dX11_init_190 : decode cX11_init 190 = .ok (.iastore, 1) := by decide +kernel
theorem dX11_init_191 : decode cX11_init 191 = .ok (.putfield 77, 3) := by decide +kernel
theorem dX11_init_194 : decode cX11_init 194 = .ok (.aload_n 0, 1) := by decide +kernel
theorem dX11_init_195 : decode cX11_init 195 = .ok (.iconst 4, 1) := by decide +kernel
theorem dX11_init_196 : decode cX11_init 196 = .ok (.newarray .int, 2) := by decide +kernel
theorem dX11_init_198 : decode cX11_init 198 = .ok (.putfield 80, 3) := by decide +kernel
theorem dX11_init_201 : decode cX11_init 201 = .ok (.aload_n 0, 1) := by decide +kernel
theorem dX11_init_202 : decode cX11_init 202 = .ok (.sipush 240, 3) := by decide +kernel
theorem dX11_init_205 : decode cX11_init 205 = .ok (.newarray .long, 2) := by decide +kernel
theorem dX11_init_207 : decode cX11_init 207 = .ok (.putfield 83, 3) := by decide +kernel
theorem dX11_init_210 : decode cX11_init 210 = .ok (.return_, 1) := by decide +kernel
theorem dX11_in_0 : decode cX11_in 0 = .ok (.iload_n 0, 1) := by decide +kernel
theorem dX11_in_1 : decode cX11_in 1 = .ok (.iload_n 1, 1) := by decide +kernel
theorem dX11_in_2 : decode cX11_in 2 = .ok (.if_icmp .lt 12, 3) := by decide +kernel
theorem dX11_in_5 : decode cX11_in 5 = .ok (.iload_n 0, 1) := by decide +kernel
theorem dX11_in_6 : decode cX11_in 6 = .ok (.iload_n 2, 1) := by decide +kernel
theorem dX11_in_7 : decode cX11_in 7 = .ok (.if_icmp .gt 7, 3) := by decide +kernel
theorem dX11_in_10 : decode cX11_in 10 = .ok (.iconst 1, 1) := by decide +kernel
theorem dX11_in_11 : decode cX11_in 11 = .ok (.goto 4, 3) := by decide +kernel
theorem dX11_in_14 : decode cX11_in 14 = .ok (.iconst 0, 1) := by decide +kernel
theorem dX11_in_15 : decode cX11_in 15 = .ok (.ireturn, 1) := by decide +kernel
theorem dX11_isPart_0 : decode cX11_isPart 0 = .ok (.iload_n 1, 1) := by decide +kernel
theorem dX11_isPart_1 : decode cX11_isPart 1 = .ok (.iconst 0, 1) := by decide +kernel
theorem dX11_isPart_2 : decode cX11_isPart 2 = .ok (.aload_n 0, 1) := by decide +kernel
theorem dX11_isPart_3 : decode cX11_isPart 3 = .ok (.getfield 86, 3) := by decide +kernel
theorem dX11_isPart_6 : decode cX11_isPart 6 = .ok (.iconst 1, 1) := by decide +kernel
theorem dX11_isPart_7 : decode cX11_isPart 7 = .ok (.isub, 1) := by decide +kernel
theorem dX11_isPart_8 : decode cX11_isPart 8 = .ok (.invokestatic 89, 3) := by decide +kernel
theorem dX11_isPart_11 : decode cX11_isPart 11 = .ok (.ireturn, 1) := by decide +kernel
theorem dX11_changes_0 : decode cX11_changes 0 = .ok (.aload_n 0, 1) := by decide +kernel
theorem dX11_changes_1 : decode cX11_changes 1 = .ok (.getfield 93, 3) := by decide +kernel
theorem dX11_changes_4 : decode cX11_changes 4 = .ok (.bipush 30, 2) := by decide +kernel
theorem dX11_changes_6 : decode cX11_changes 6 = .ok (.if_icmp .ne 111, 3) := by decide +kernel
theorem dX11_changes_9 : decode cX11_changes 9 = .ok (.iconst 1, 1) := by decide +kernel
theorem dX11_changes_10 : decode cX11_changes 10 = .ok (.istore_n 3, 1) := by decide +kernel
theorem dX11_changes_11 : decode cX11_changes 11 = .ok (.iload_n 3, 1) := by decide +kernel
theorem dX11_changes_12 : decode cX11_changes 12 = .ok (.bipush 30, 2) := by decide +kernel
theorem dX11_changes_14 : decode cX11_changes 14 = .ok (.if_icmp .ge 93, 3) := by decide +kernel
theorem dX11_changes_17 : decode cX11_changes 17 = .ok (.aload_n 0, 1) := by decide +kernel
theorem dX11_changes_18 : decode cX11_changes 18 = .ok (.getfield 41, 3) := by decide +kernel
theorem dX11_changes_21 : decode cX11_changes 21 = .ok (.iload_n 3, 1) := by decide +kernel
theorem dX11_changes_22 : decode cX11_changes 22 = .ok (.iconst 1, 1) := by decide +kernel
theorem dX11_changes_23 : decode cX11_changes 23 = .ok (.isub, 1) := by decide +kernel
theorem dX11_changes_24 : decode cX11_changes 24 = .ok (.aload_n 0, 1) := by decide +kernel
theorem dX11_changes_25 : decode cX11_changes 25 = .ok (.getfield 41, 3) := by decide +kernel
theorem dX11_changes_28 : decode cX11_changes 28 = .ok (.iload_n 3, 1) := by decide +kernel
theorem dX11_changes_29 : decode cX11_changes 29 = .ok (.iaload, 1) := by decide +kernel
theorem dX11_changes_30 : decode cX11_changes 30 = .ok (.iastore, 1) := by decide +kernel
theorem dX11_changes_31 : decode cX11_changes 31 = .ok (.aload_n 0, 1) := by decide +kernel
theorem dX11_changes_32 : decode cX11_changes 32 = .ok (.getfield 44, 3) := by decide +kernel
theorem dX11_changes_35 : decode cX11_changes 35 = .ok (.iload_n 3, 1) := by decide +kernel
theorem dX11_changes_36 : decode cX11_changes 36 = .ok (.iconst 1, 1) := by decide +kernel
theorem dX11_changes_37 : decode cX11_changes 37 = .ok (.isub, 1) := by decide +kernel
theorem dX11_changes_38 : decode cX11_changes 38 = .ok (.aload_n 0, 1) := by decide +kernel
theorem dX11_changes_39 : decode cX11_changes 39 = .ok (.getfield 44, 3) := by decide +kernel
theorem dX11_changes_42 : decode cX11_changes 42 = .ok (.iload_n 3, 1) := by decide +kernel
theorem dX11_changes_43 : decode cX11_changes 43 = .ok (.iaload, 1) := by decide +kernel
theorem dX11_changes_44 : decode cX11_changes 44 = .ok (.iastore, 1) := by decide +kernel
theorem dX11_changes_45 : decode cX11_changes 45 = .ok (.aload_n 0, 1) := by decide +kernel
theorem dX11_changes_46 : decode cX11_changes 46 = .ok (.getfield 47, 3) := by decide +kernel
theorem dX11_changes_49 : decode cX11_changes 49 = .ok (.iload_n 3, 1) := by decide +kernel
theorem dX11_changes_50 : decode cX11_changes 50 = .ok (.iconst 1, 1) := by decide +kernel
theorem dX11_changes_51 : decode cX11_changes 51 = .ok (.isub, 1) := by decide +kernel
theorem dX11_changes_52 : decode cX11_changes 52 = .ok (.aload_n 0, 1) := by decide +kernel
theorem dX11_changes_53 : decode cX11_changes 53 = .ok (.getfield 47, 3) := by decide +kernel
theorem dX11_changes_56 : decode cX11_changes 56 = .ok (.iload_n 3, 1) := by decide +kernel
theorem dX11_changes_57 : decode cX11_changes 57 = .ok (.iaload, 1) := by decide +kernel
theorem dX11_changes_58 : decode cX11_changes 58 = .ok (.iastore, 1) := by decide +kernel
theorem dX11_changes_59 : decode cX11_changes 59 = .ok (.aload_n 0, 1) := by decide +kernel
theorem dX11_changes_60 : decode cX11_changes 60 = .ok (.getfield 50, 3) := by decide +kernel
theorem dX11_changes_63 : decode cX11_changes 63 = .ok (.iload_n 3, 1) := by decide +kernel
theorem dX11_changes_64 : decode cX11_changes 64 = .ok (.iconst 1, 1) := by decide +kernel
theorem dX11_changes_65 : decode cX11_changes 65 = .ok (.isub, 1) := by decide +kernel
theorem dX11_changes_66 : decode cX11_changes 66 = .ok (.aload_n 0, 1) := by decide +kernel
theorem dX11_changes_67 : decode cX11_changes 67 = .ok (.getfield 50, 3) := by decide +kernel
theorem dX11_changes_70 : decode cX11_changes 70 = .ok (.iload_n 3, 1) := by decide +kernel
theorem dX11_changes_71 : decode cX11_changes 71 = .ok (.iaload, 1) := by decide +kernel
theorem dX11_changes_72 : decode cX11_changes 72 = .ok (.iastore, 1) := by decide +kernel
theorem dX11_changes_73 : decode cX11_changes 73 = .ok (.aload_n 0, 1) := by decide +kernel
theorem dX11_changes_74 : decode cX11_changes 74 = .ok (.getfield 53, 3) := by decide +kernel
theorem dX11_changes_77 : decode cX11_changes 77 = .ok (.iload_n 3, 1) := by decide +kernel
theorem dX11_changes_78 : decode cX11_changes 78 = .ok (.iconst 1, 1) := by decide +kernel
theorem dX11_changes_79 : decode cX11_changes 79 = .ok (.isub, 1) := by decide +kernel
theorem dX11_changes_80 : decode cX11_changes 80 = .ok (.aload_n 0, 1) := by decide +kernel
theorem dX11_changes_81 : decode cX11_changes 81 = .ok (.getfield 53, 3) := by decide +kernel
theorem dX11_changes_84 : decode cX11_changes 84 = .ok (.iload_n 3, 1) := by decide +kernel
theorem dX11_changes_85 : decode cX11_changes 85 = .ok (.iaload, 1) := by decide +kernel
theorem dX11_changes_86 : decode cX11_changes 86 = .ok (.iastore, 1) := by decide +kernel
theorem dX11_changes_87 : decode cX11_changes 87 = .ok (.aload_n 0, 1) := by decide +kernel
theorem dX11_changes_88 : decode cX11_changes 88 = .ok (.getfield 56, 3) := by decide +kernel
theorem dX11_changes_91 : decode cX11_changes 91 = .ok (.iload_n 3, 1) := by decide +kernel
theorem dX11_changes_92 : decode cX11_changes 92 = .ok (.iconst 1, 1) := by decide +kernel
theorem dX11_changes_93 : decode cX11_changes 93 = .ok (.isub, 1) := by decide +kernel
theorem dX11_changes_94 : decode cX11_changes 94 = .ok (.aload_n 0, 1) := by decide +kernel
theorem dX11_changes_95 : decode cX11_changes 95 = .ok (.getfield 56, 3) := by decide +kernel
theorem dX11_changes_98 : decode cX11_changes 98 = .ok (.iload_n 3, 1) := by decide +kernel
theorem dX11_changes_99 : decode cX11_changes 99 = .ok (.laload, 1) := by decide +kernel
theorem dX11_changes_100 : decode cX11_changes 100 = .ok (.lastore, 1) := by decide +kernel
theorem dX11_changes_101 : decode cX11_changes 101 = .ok (.iinc 3 1, 3) := by decide +kernel
theorem dX11_changes_104 : decode cX11_changes 104 = .ok (.goto (-93), 3) := by decide +kernel
theorem dX11_changes_107 : decode cX11_changes 107 = .ok (.aload_n 0, 1) := by decide +kernel
theorem dX11_changes_108 : decode cX11_changes 108 = .ok (.dup, 1) := by decide +kernel
theorem dX11_changes_109 : decode cX11_changes 109 = .ok (.getfield 93, 3) := by decide +kernel
theorem dX11_changes_112 : decode cX11_changes 112 = .ok (.iconst 1, 1) := by decide +kernel
theorem dX11_changes_113 : decode cX11_changes 113 = .ok (.isub, 1) := by decide +kernel
theorem dX11_changes_114 : decode cX11_changes 114 = .ok (.putfield 93, 3) := by decide +kernel
theorem dX11_changes_117 : decode cX11_changes 117 = .ok (.aload_n 0, 1) := by decide +kernel
theorem dX11_changes_118 : decode cX11_changes 118 = .ok (.getfield 41, 3) := by decide +kernel
theorem dX11_changes_121 : decode cX11_changes 121 = .ok (.aload_n 0, 1) := by decide +kernel
theorem dX11_changes_122 : decode cX11_changes 122 = .ok (.getfield 93, 3) := by decide +kernel
theorem dX11_changes_125 : decode cX11_changes 125 = .ok (.iload_n 1, 1) := by decide +kernel
theorem dX11_changes_126 : decode cX11_changes 126 = .ok (.iastore, 1) := by decide +kernel
theorem dX11_changes_127 : decode cX11_changes 127 = .ok (.aload_n 0, 1) := by decide +kernel
theorem dX11_changes_128 : decode cX11_changes 128 = .ok (.getfield 44, 3) := by decide +kernel
theorem dX11_changes_131 : decode cX11_changes 131 = .ok (.aload_n 0, 1) := by decide +kernel
theorem dX11_changes_132 : decode cX11_changes 132 = .ok (.getfield 93, 3) := by decide +kernel
theorem dX11_changes_135 : decode cX11_changes 135 = .ok (.iload_n 2, 1) := by decide +kernel
theorem dX11_changes_136 : decode cX11_changes 136 = .ok (.iastore, 1) := by decide +kernel
theorem dX11_changes_137 : decode cX11_changes 137 = .ok (.aload_n 0, 1) := by decide +kernel
theorem dX11_changes_138 : decode cX11_changes 138 = .ok (.getfield 47, 3) := by decide +kernel
theorem dX11_changes_141 : decode cX11_changes 141 = .ok (.aload_n 0, 1) := by decide +kernel
theorem dX11_changes_142 : decode cX11_changes 142 = .ok (.getfield 93, 3) := by decide +kernel
theorem dX11_changes_145 : decode cX11_changes 145 = .ok (.aload_n 0, 1) := by decide +kernel
theorem dX11_changes_146 : decode cX11_changes 146 = .ok (.getfield 15, 3) := by decide +kernel
theorem dX11_changes_149 : decode cX11_changes 149 = .ok (.iload_n 2, 1) := by decide +kernel
theorem dX11_changes_150 : decode cX11_changes 150 = .ok (.iaload, 1) := by decide +kernel
theorem dX11_changes_151 : decode cX11_changes 151 = .ok (.iastore, 1) := by decide +kernel
theorem dX11_changes_152 : decode cX11_changes 152 = .ok (.aload_n 0, 1) := by decide +kernel
theorem dX11_changes_153 : decode cX11_changes 153 = .ok (.getfield 50, 3) := by decide +kernel
theorem dX11_changes_156 : decode cX11_changes 156 = .ok (.aload_n 0, 1) := by decide +kernel
theorem dX11_changes_157 : decode cX11_changes 157 = .ok (.getfield 93, 3) := by decide +kernel
theorem dX11_changes_160 : decode cX11_changes 160 = .ok (.aload_n 0, 1) := by decide +kernel
theorem dX11_changes_161 : decode cX11_changes 161 = .ok (.getfield 19, 3) := by decide +kernel
theorem dX11_changes_164 : decode cX11_changes 164 = .ok (.iload_n 2, 1) := by decide +kernel
theorem dX11_changes_165 : decode cX11_changes 165 = .ok (.iaload, 1) := by decide +kernel
theorem dX11_changes_166 : decode cX11_changes 166 = .ok (.iastore, 1) := by decide +kernel
theorem dX11_changes_167 : decode cX11_changes 167 = .ok (.aload_n 0, 1) := by decide +kernel
theorem dX11_changes_168 : decode cX11_changes 168 = .ok (.getfield 53, 3) := by decide +kernel
theorem dX11_changes_171 : decode cX11_changes 171 = .ok (.aload_n 0, 1) := by decide +kernel
theorem dX11_changes_172 : decode cX11_changes 172 = .ok (.getfield 93, 3) := by decide +kernel
theorem dX11_changes_175 : decode cX11_changes 175 = .ok (.aload_n 0, 1) := by decide +kernel
theorem dX11_changes_176 : decode cX11_changes 176 = .ok (.getfield 22, 3) := by decide +kernel
theorem dX11_changes_179 : decode cX11_changes 179 = .ok (.iload_n 2, 1) := by decide +kernel
theorem dX11_changes_180 : decode cX11_changes 180 = .ok (.iaload, 1) := by decide +kernel
theorem dX11_changes_181 : decode cX11_changes 181 = .ok (.iastore, 1) := by decide +kernel
theorem dX11_changes_182 : decode cX11_changes 182 = .ok (.aload_n 0, 1) := by decide +kernel
theorem dX11_changes_183 : decode cX11_changes 183 = .ok (.getfield 56, 3) := by decide +kernel
theorem dX11_changes_186 : decode cX11_changes 186 = .ok (.aload_n 0, 1) := by decide +kernel
theorem dX11_changes_187 : decode cX11_changes 187 = .ok (.getfield 93, 3) := by decide +kernel
theorem dX11_changes_190 : decode cX11_changes 190 = .ok (.aload_n 0, 1) := by decide +kernel
theorem dX11_changes_191 : decode cX11_changes 191 = .ok (.getfield 25, 3) := by decide +kernel
theorem dX11_changes_194 : decode cX11_changes 194 = .ok (.iload_n 2, 1) := by decide +kernel
theorem dX11_changes_195 : decode cX11_changes 195 = .ok (.laload, 1) := by decide +kernel
theorem dX11_changes_196 : decode cX11_changes 196 = .ok (.lastore, 1) := by decide +kernel
theorem dX11_changes_197 : decode cX11_changes 197 = .ok (.aload_n 0, 1) := by decide +kernel
theorem dX11_changes_198 : decode cX11_changes 198 = .ok (.dup, 1) := by decide +kernel
theorem dX11_changes_199 : decode cX11_changes 199 = .ok (.getfield 93, 3) := by decide +kernel
theorem dX11_changes_202 : decode cX11_changes 202 = .ok (.iconst 1, 1) := by decide +kernel
theorem dX11_changes_203 : decode cX11_changes 203 = .ok (.iadd, 1) := by decide +kernel
theorem dX11_changes_204 : decode cX11_changes 204 = .ok (.putfield 93, 3) := by decide +kernel
theorem dX11_changes_207 : decode cX11_changes 207 = .ok (.return_, 1) := by decide +kernel
theorem dX11_comes_0 : decode cX11_comes 0 = .ok (.aload_n 0, 1) := by decide +kernel
theorem dX11_comes_1 : decode cX11_comes 1 = .ok (.getfield 86, 3) := by decide +kernel
theorem dX11_comes_4 : decode cX11_comes 4 = .ok (.istore_n 3, 1) := by decide +kernel
theorem dX11_comes_5 : decode cX11_comes 5 = .ok (.aload_n 0, 1) := by decide +kernel
theorem dX11_comes_6 : decode cX11_comes 6 = .ok (.iconst 0, 1) := by decide +kernel
theorem dX11_comes_7 : decode cX11_comes 7 = .ok (.iload_n 3, 1) := by decide +kernel
theorem dX11_comes_8 : decode cX11_comes 8 = .ok (.invokevirtual 96, 3) := by decide +kernel
theorem dX11_comes_11 : decode cX11_comes 11 = .ok (.aload_n 0, 1) := by decide +kernel
theorem dX11_comes_12 : decode cX11_comes 12 = .ok (.getfield 15, 3) := by decide +kernel
theorem dX11_comes_15 : decode cX11_comes 15 = .ok (.iload_n 3, 1) := by decide +kernel
theorem dX11_comes_16 : decode cX11_comes 16 = .ok (.iload_n 1, 1) := by decide +kernel
theorem dX11_comes_17 : decode cX11_comes 17 = .ok (.iastore, 1) := by decide +kernel
theorem dX11_comes_18 : decode cX11_comes 18 = .ok (.aload_n 0, 1) := by decide +kernel
theorem dX11_comes_19 : decode cX11_comes 19 = .ok (.getfield 19, 3) := by decide +kernel
theorem dX11_comes_22 : decode cX11_comes 22 = .ok (.iload_n 3, 1) := by decide +kernel
theorem dX11_comes_23 : decode cX11_comes 23 = .ok (.iload_n 2, 1) := by decide +kernel
theorem dX11_comes_24 : decode cX11_comes 24 = .ok (.iastore, 1) := by decide +kernel
theorem dX11_comes_25 : decode cX11_comes 25 = .ok (.aload_n 0, 1) := by decide +kernel
theorem dX11_comes_26 : decode cX11_comes 26 = .ok (.getfield 22, 3) := by decide +kernel
theorem dX11_comes_29 : decode cX11_comes 29 = .ok (.iload_n 3, 1) := by decide +kernel
theorem dX11_comes_30 : decode cX11_comes 30 = .ok (.iconst 1, 1) := by decide +kernel
theorem dX11_comes_31 : decode cX11_comes 31 = .ok (.iastore, 1) := by decide +kernel
theorem dX11_comes_32 : decode cX11_comes 32 = .ok (.aload_n 0, 1) := by decide +kernel
theorem dX11_comes_33 : decode cX11_comes 33 = .ok (.getfield 25, 3) := by decide +kernel
theorem dX11_comes_36 : decode cX11_comes 36 = .ok (.iload_n 3, 1) := by decide +kernel
theorem dX11_comes_37 : decode cX11_comes 37 = .ok (.ldc2_w 99, 3) := by decide +kernel
theorem dX11_comes_40 : decode cX11_comes 40 = .ok (.lastore, 1) := by decide +kernel
theorem dX11_comes_41 : decode cX11_comes 41 = .ok (.aload_n 0, 1) := by decide +kernel
theorem dX11_comes_42 : decode cX11_comes 42 = .ok (.dup, 1) := by decide +kernel
theorem dX11_comes_43 : decode cX11_comes 43 = .ok (.getfield 86, 3) := by decide +kernel
theorem dX11_comes_46 : decode cX11_comes 46 = .ok (.iconst 1, 1) := by decide +kernel
theorem dX11_comes_47 : decode cX11_comes 47 = .ok (.iadd, 1) := by decide +kernel
theorem dX11_comes_48 : decode cX11_comes 48 = .ok (.putfield 86, 3) := by decide +kernel
theorem dX11_comes_51 : decode cX11_comes 51 = .ok (.iload_n 3, 1) := by decide +kernel
theorem dX11_comes_52 : decode cX11_comes 52 = .ok (.ireturn, 1) := by decide +kernel
theorem dX11_part_0 : decode cX11_part 0 = .ok (.iload_n 1, 1) := by decide +kernel
theorem dX11_part_1 : decode cX11_part 1 = .ok (.iconst 0, 1) := by decide +kernel
theorem dX11_part_2 : decode cX11_part 2 = .ok (.iconst 4, 1) := by decide +kernel
theorem dX11_part_3 : decode cX11_part 3 = .ok (.invokestatic 89, 3) := by decide +kernel
theorem dX11_part_6 : decode cX11_part 6 = .ok (.ifCond .eq 18, 3) := by decide +kernel
theorem dX11_part_9 : decode cX11_part 9 = .ok (.iload_n 2, 1) := by decide +kernel
theorem dX11_part_10 : decode cX11_part 10 = .ok (.iconst 0, 1) := by decide +kernel
theorem dX11_part_11 : decode cX11_part 11 = .ok (.iconst 4, 1) := by decide +kernel
theorem dX11_part_12 : decode cX11_part 12 = .ok (.invokestatic 89, 3) := by decide +kernel
theorem dX11_part_15 : decode cX11_part 15 = .ok (.ifCond .eq 9, 3) := by decide +kernel
theorem dX11_part_18 : decode cX11_part 18 = .ok (.iload_n 1, 1) := by decide +kernel
theorem dX11_part_19 : decode cX11_part 19 = .ok (.iload_n 2, 1) := by decide +kernel
theorem dX11_part_20 : decode cX11_part 20 = .ok (.iadd, 1) := by decide +kernel
theorem dX11_part_21 : decode cX11_part 21 = .ok (.ifCond .ne 5, 3) := by decide +kernel
theorem dX11_part_24 : decode cX11_part 24 = .ok (.iconst (-1), 1) := by decide +kernel
theorem dX11_part_25 : decode cX11_part 25 = .ok (.ireturn, 1) := by decide +kernel
theorem dX11_part_26 : decode cX11_part 26 = .ok (.aload_n 0, 1) := by decide +kernel
theorem dX11_part_27 : decode cX11_part 27 = .ok (.getfield 86, 3) := by decide +kernel
theorem dX11_part_30 : decode cX11_part 30 = .ok (.bipush 6, 2) := by decide +kernel
theorem dX11_part_32 : decode cX11_part 32 = .ok (.if_icmp .ne 8, 3) := by decide +kernel
theorem dX11_part_35 : decode cX11_part 35 = .ok (.bipush (-2), 2) := by decide +kernel
theorem dX11_part_37 : decode cX11_part 37 = .ok (.goto 9, 3) := by decide +kernel
theorem dX11_part_40 : decode cX11_part 40 = .ok (.aload_n 0, 1) := by decide +kernel
theorem dX11_part_41 : decode cX11_part 41 = .ok (.iload_n 1, 1) := by decide +kernel
theorem dX11_part_42 : decode cX11_part 42 = .ok (.iload_n 2, 1) := by decide +kernel
theorem dX11_part_43 : decode cX11_part 43 = .ok (.invokevirtual 101, 3) := by decide +kernel
theorem dX11_part_46 : decode cX11_part 46 = .ok (.ireturn, 1) := by decide +kernel
theorem dX11_arc_0 : decode cX11_arc 0 = .ok (.iload_n 1, 1) := by decide +kernel
theorem dX11_arc_1 : decode cX11_arc 1 = .ok (.iconst 0, 1) := by decide +kernel
theorem dX11_arc_2 : decode cX11_arc 2 = .ok (.iconst 2, 1) := by decide +kernel
theorem dX11_arc_3 : decode cX11_arc 3 = .ok (.invokestatic 89, 3) := by decide +kernel
theorem dX11_arc_6 : decode cX11_arc 6 = .ok (.ifCond .eq 17, 3) := by decide +kernel
theorem dX11_arc_9 : decode cX11_arc 9 = .ok (.iload_n 2, 1) := by decide +kernel
theorem dX11_arc_10 : decode cX11_arc 10 = .ok (.iconst 0, 1) := by decide +kernel
theorem dX11_arc_11 : decode cX11_arc 11 = .ok (.iconst 2, 1) := by decide +kernel
theorem dX11_arc_12 : decode cX11_arc 12 = .ok (.invokestatic 89, 3) := by decide +kernel
theorem dX11_arc_15 : decode cX11_arc 15 = .ok (.ifCond .eq 8, 3) := by decide +kernel
theorem dX11_arc_18 : decode cX11_arc 18 = .ok (.iload_n 1, 1) := by decide +kernel
theorem dX11_arc_19 : decode cX11_arc 19 = .ok (.iload_n 2, 1) := by decide +kernel
theorem dX11_arc_20 : decode cX11_arc 20 = .ok (.if_icmp .lt 5, 3) := by decide +kernel
theorem dX11_arc_23 : decode cX11_arc 23 = .ok (.iconst (-1), 1) := by decide +kernel
theorem dX11_arc_24 : decode cX11_arc 24 = .ok (.ireturn, 1) := by decide +kernel
theorem dX11_arc_25 : decode cX11_arc 25 = .ok (.aload_n 0, 1) := by decide +kernel
theorem dX11_arc_26 : decode cX11_arc 26 = .ok (.getfield 86, 3) := by decide +kernel
theorem dX11_arc_29 : decode cX11_arc 29 = .ok (.bipush 6, 2) := by decide +kernel
theorem dX11_arc_31 : decode cX11_arc 31 = .ok (.if_icmp .ne 8, 3) := by decide +kernel
theorem dX11_arc_34 : decode cX11_arc 34 = .ok (.bipush (-2), 2) := by decide +kernel
theorem dX11_arc_36 : decode cX11_arc 36 = .ok (.goto 26, 3) := by decide +kernel
theorem dX11_arc_39 : decode cX11_arc 39 = .ok (.aload_n 0, 1) := by decide +kernel
theorem dX11_arc_40 : decode cX11_arc 40 = .ok (.iload_n 1, 1) := by decide +kernel
theorem dX11_arc_41 : decode cX11_arc 41 = .ok (.ifCond .ne 7, 3) := by decide +kernel
theorem dX11_arc_44 : decode cX11_arc 44 = .ok (.iconst 1, 1) := by decide +kernel
theorem dX11_arc_45 : decode cX11_arc 45 = .ok (.goto 4, 3) := by decide +kernel
theorem dX11_arc_48 : decode cX11_arc 48 = .ok (.iconst 0, 1) := by decide +kernel
theorem dX11_arc_49 : decode cX11_arc 49 = .ok (.iload_n 2, 1) := by decide +kernel
theorem dX11_arc_50 : decode cX11_arc 50 = .ok (.iconst 2, 1) := by decide +kernel
theorem dX11_arc_51 : decode cX11_arc 51 = .ok (.if_icmp .ne 7, 3) := by decide +kernel
theorem dX11_arc_54 : decode cX11_arc 54 = .ok (.iconst 1, 1) := by decide +kernel
theorem dX11_arc_55 : decode cX11_arc 55 = .ok (.goto 4, 3) := by decide +kernel
theorem dX11_arc_58 : decode cX11_arc 58 = .ok (.iconst 0, 1) := by decide +kernel
theorem dX11_arc_59 : decode cX11_arc 59 = .ok (.invokevirtual 101, 3) := by decide +kernel
theorem dX11_arc_62 : decode cX11_arc 62 = .ok (.ireturn, 1) := by decide +kernel
theorem dX11_drop_0 : decode cX11_drop 0 = .ok (.aload_n 0, 1) := by decide +kernel
theorem dX11_drop_1 : decode cX11_drop 1 = .ok (.getfield 86, 3) := by decide +kernel
theorem dX11_drop_4 : decode cX11_drop 4 = .ok (.ifCond .ne 6, 3) := by decide +kernel
theorem dX11_drop_7 : decode cX11_drop 7 = .ok (.bipush (-3), 2) := by decide +kernel
theorem dX11_drop_9 : decode cX11_drop 9 = .ok (.ireturn, 1) := by decide +kernel
theorem dX11_drop_10 : decode cX11_drop 10 = .ok (.aload_n 0, 1) := by decide +kernel
theorem dX11_drop_11 : decode cX11_drop 11 = .ok (.iconst 1, 1) := by decide +kernel
theorem dX11_drop_12 : decode cX11_drop 12 = .ok (.aload_n 0, 1) := by decide +kernel
theorem dX11_drop_13 : decode cX11_drop 13 = .ok (.getfield 86, 3) := by decide +kernel
theorem dX11_drop_16 : decode cX11_drop 16 = .ok (.iconst 1, 1) := by decide +kernel
theorem dX11_drop_17 : decode cX11_drop 17 = .ok (.isub, 1) := by decide +kernel
theorem dX11_drop_18 : decode cX11_drop 18 = .ok (.invokevirtual 96, 3) := by decide +kernel
theorem dX11_drop_21 : decode cX11_drop 21 = .ok (.aload_n 0, 1) := by decide +kernel
theorem dX11_drop_22 : decode cX11_drop 22 = .ok (.dup, 1) := by decide +kernel
theorem dX11_drop_23 : decode cX11_drop 23 = .ok (.getfield 86, 3) := by decide +kernel
theorem dX11_drop_26 : decode cX11_drop 26 = .ok (.iconst 1, 1) := by decide +kernel
theorem dX11_drop_27 : decode cX11_drop 27 = .ok (.isub, 1) := by decide +kernel
theorem dX11_drop_28 : decode cX11_drop 28 = .ok (.putfield 86, 3) := by decide +kernel
theorem dX11_drop_31 : decode cX11_drop 31 = .ok (.aload_n 0, 1) := by decide +kernel
theorem dX11_drop_32 : decode cX11_drop 32 = .ok (.getfield 86, 3) := by decide +kernel
theorem dX11_drop_35 : decode cX11_drop 35 = .ok (.ireturn, 1) := by decide +kernel
theorem dX11_weigh_0 : decode cX11_weigh 0 = .ok (.aload_n 0, 1) := by decide +kernel
theorem dX11_weigh_1 : decode cX11_weigh 1 = .ok (.iload_n 1, 1) := by decide +kernel
theorem dX11_weigh_2 : decode cX11_weigh 2 = .ok (.invokevirtual 105, 3) := by decide +kernel
theorem dX11_weigh_5 : decode cX11_weigh 5 = .ok (.ifCond .eq 13, 3) := by decide +kernel
theorem dX11_weigh_8 : decode cX11_weigh 8 = .ok (.iload_n 2, 1) := by decide +kernel
theorem dX11_weigh_9 : decode cX11_weigh 9 = .ok (.iconst 1, 1) := by decide +kernel
theorem dX11_weigh_10 : decode cX11_weigh 10 = .ok (.bipush 99, 2) := by decide +kernel
theorem dX11_weigh_12 : decode cX11_weigh 12 = .ok (.invokestatic 89, 3) := by decide +kernel
theorem dX11_weigh_15 : decode cX11_weigh 15 = .ok (.ifCond .ne 5, 3) := by decide +kernel
theorem dX11_weigh_18 : decode cX11_weigh 18 = .ok (.iconst (-1), 1) := by decide +kernel
theorem dX11_weigh_19 : decode cX11_weigh 19 = .ok (.ireturn, 1) := by decide +kernel
theorem dX11_weigh_20 : decode cX11_weigh 20 = .ok (.aload_n 0, 1) := by decide +kernel
theorem dX11_weigh_21 : decode cX11_weigh 21 = .ok (.getfield 22, 3) := by decide +kernel
theorem dX11_weigh_24 : decode cX11_weigh 24 = .ok (.iload_n 1, 1) := by decide +kernel
theorem dX11_weigh_25 : decode cX11_weigh 25 = .ok (.iaload, 1) := by decide +kernel
theorem dX11_weigh_26 : decode cX11_weigh 26 = .ok (.istore_n 3, 1) := by decide +kernel
theorem dX11_weigh_27 : decode cX11_weigh 27 = .ok (.aload_n 0, 1) := by decide +kernel
theorem dX11_weigh_28 : decode cX11_weigh 28 = .ok (.iconst 2, 1) := by decide +kernel
theorem dX11_weigh_29 : decode cX11_weigh 29 = .ok (.iload_n 1, 1) := by decide +kernel
theorem dX11_weigh_30 : decode cX11_weigh 30 = .ok (.invokevirtual 96, 3) := by decide +kernel
theorem dX11_weigh_33 : decode cX11_weigh 33 = .ok (.aload_n 0, 1) := by decide +kernel
theorem dX11_weigh_34 : decode cX11_weigh 34 = .ok (.getfield 22, 3) := by decide +kernel
theorem dX11_weigh_37 : decode cX11_weigh 37 = .ok (.iload_n 1, 1) := by decide +kernel
theorem dX11_weigh_38 : decode cX11_weigh 38 = .ok (.iload_n 2, 1) := by decide +kernel
theorem dX11_weigh_39 : decode cX11_weigh 39 = .ok (.iastore, 1) := by decide +kernel
theorem dX11_weigh_40 : decode cX11_weigh 40 = .ok (.iload_n 3, 1) := by decide +kernel
theorem dX11_weigh_41 : decode cX11_weigh 41 = .ok (.ireturn, 1) := by decide +kernel
theorem dX11_ones_0 : decode cX11_ones 0 = .ok (.iconst 0, 1) := by decide +kernel
theorem dX11_ones_1 : decode cX11_ones 1 = .ok (.istore_n 2, 1) := by decide +kernel
theorem dX11_ones_2 : decode cX11_ones 2 = .ok (.lload_n 0, 1) := by decide +kernel
theorem dX11_ones_3 : decode cX11_ones 3 = .ok (.lstore_n 3, 1) := by decide +kernel
theorem dX11_ones_4 : decode cX11_ones 4 = .ok (.lload_n 3, 1) := by decide +kernel
theorem dX11_ones_5 : decode cX11_ones 5 = .ok (.lconst 0, 1) := by decide +kernel
theorem dX11_ones_6 : decode cX11_ones 6 = .ok (.lcmp, 1) := by decide +kernel
theorem dX11_ones_7 : decode cX11_ones 7 = .ok (.ifCond .eq 15, 3) := by decide +kernel
theorem dX11_ones_10 : decode cX11_ones 10 = .ok (.iinc 2 1, 3) := by decide +kernel
theorem dX11_ones_13 : decode cX11_ones 13 = .ok (.lload_n 3, 1) := by decide +kernel
theorem dX11_ones_14 : decode cX11_ones 14 = .ok (.lload_n 3, 1) := by decide +kernel
theorem dX11_ones_15 : decode cX11_ones 15 = .ok (.lconst 1, 1) := by decide +kernel
theorem dX11_ones_16 : decode cX11_ones 16 = .ok (.lsub, 1) := by decide +kernel
theorem dX11_ones_17 : decode cX11_ones 17 = .ok (.land, 1) := by decide +kernel
theorem dX11_ones_18 : decode cX11_ones 18 = .ok (.lstore_n 3, 1) := by decide +kernel
theorem dX11_ones_19 : decode cX11_ones 19 = .ok (.goto (-15), 3) := by decide +kernel
theorem dX11_ones_22 : decode cX11_ones 22 = .ok (.iload_n 2, 1) := by decide +kernel
theorem dX11_ones_23 : decode cX11_ones 23 = .ok (.ireturn, 1) := by decide +kernel
theorem dX11_partOf_0 : decode cX11_partOf 0 = .ok (.aload_n 0, 1) := by decide +kernel
theorem dX11_partOf_1 : decode cX11_partOf 1 = .ok (.iload_n 1, 1) := by decide +kernel
theorem dX11_partOf_2 : decode cX11_partOf 2 = .ok (.invokevirtual 105, 3) := by decide +kernel
theorem dX11_partOf_5 : decode cX11_partOf 5 = .ok (.ifCond .ne 5, 3) := by decide +kernel
theorem dX11_partOf_8 : decode cX11_partOf 8 = .ok (.iconst (-1), 1) := by decide +kernel
theorem dX11_partOf_9 : decode cX11_partOf 9 = .ok (.ireturn, 1) := by decide +kernel
theorem dX11_partOf_10 : decode cX11_partOf 10 = .ok (.iload_n 2, 1) := by decide +kernel
theorem dX11_partOf_11 : decode cX11_partOf 11 = .ok (.tableswitch 70 0 4 #[33, 40, 47, 54, 60], 33) := by decide +kernel
theorem dX11_partOf_44 : decode cX11_partOf 44 = .ok (.aload_n 0, 1) := by decide +kernel
theorem dX11_partOf_45 : decode cX11_partOf 45 = .ok (.getfield 15, 3) := by decide +kernel
theorem dX11_partOf_48 : decode cX11_partOf 48 = .ok (.iload_n 1, 1) := by decide +kernel
theorem dX11_partOf_49 : decode cX11_partOf 49 = .ok (.iaload, 1) := by decide +kernel
theorem dX11_partOf_50 : decode cX11_partOf 50 = .ok (.ireturn, 1) := by decide +kernel
theorem dX11_partOf_51 : decode cX11_partOf 51 = .ok (.aload_n 0, 1) := by decide +kernel
theorem dX11_partOf_52 : decode cX11_partOf 52 = .ok (.getfield 19, 3) := by decide +kernel
theorem dX11_partOf_55 : decode cX11_partOf 55 = .ok (.iload_n 1, 1) := by decide +kernel
theorem dX11_partOf_56 : decode cX11_partOf 56 = .ok (.iaload, 1) := by decide +kernel
theorem dX11_partOf_57 : decode cX11_partOf 57 = .ok (.ireturn, 1) := by decide +kernel
theorem dX11_partOf_58 : decode cX11_partOf 58 = .ok (.aload_n 0, 1) := by decide +kernel
theorem dX11_partOf_59 : decode cX11_partOf 59 = .ok (.getfield 22, 3) := by decide +kernel
theorem dX11_partOf_62 : decode cX11_partOf 62 = .ok (.iload_n 1, 1) := by decide +kernel
theorem dX11_partOf_63 : decode cX11_partOf 63 = .ok (.iaload, 1) := by decide +kernel
theorem dX11_partOf_64 : decode cX11_partOf 64 = .ok (.ireturn, 1) := by decide +kernel
theorem dX11_partOf_65 : decode cX11_partOf 65 = .ok (.aload_n 0, 1) := by decide +kernel
theorem dX11_partOf_66 : decode cX11_partOf 66 = .ok (.iload_n 1, 1) := by decide +kernel
theorem dX11_partOf_67 : decode cX11_partOf 67 = .ok (.invokevirtual 109, 3) := by decide +kernel
theorem dX11_partOf_70 : decode cX11_partOf 70 = .ok (.ireturn, 1) := by decide +kernel
theorem dX11_partOf_71 : decode cX11_partOf 71 = .ok (.aload_n 0, 1) := by decide +kernel
theorem dX11_partOf_72 : decode cX11_partOf 72 = .ok (.getfield 25, 3) := by decide +kernel
theorem dX11_partOf_75 : decode cX11_partOf 75 = .ok (.iload_n 1, 1) := by decide +kernel
theorem dX11_partOf_76 : decode cX11_partOf 76 = .ok (.laload, 1) := by decide +kernel
theorem dX11_partOf_77 : decode cX11_partOf 77 = .ok (.invokestatic 113, 3) := by decide +kernel
theorem dX11_partOf_80 : decode cX11_partOf 80 = .ok (.ireturn, 1) := by decide +kernel
theorem dX11_partOf_81 : decode cX11_partOf 81 = .ok (.iconst (-1), 1) := by decide +kernel
theorem dX11_partOf_82 : decode cX11_partOf 82 = .ok (.ireturn, 1) := by decide +kernel
theorem dX11_undo_0 : decode cX11_undo 0 = .ok (.aload_n 0, 1) := by decide +kernel
theorem dX11_undo_1 : decode cX11_undo 1 = .ok (.getfield 93, 3) := by decide +kernel
theorem dX11_undo_4 : decode cX11_undo 4 = .ok (.ifCond .ne 6, 3) := by decide +kernel
theorem dX11_undo_7 : decode cX11_undo 7 = .ok (.bipush (-3), 2) := by decide +kernel
theorem dX11_undo_9 : decode cX11_undo 9 = .ok (.ireturn, 1) := by decide +kernel
theorem dX11_undo_10 : decode cX11_undo 10 = .ok (.aload_n 0, 1) := by decide +kernel
theorem dX11_undo_11 : decode cX11_undo 11 = .ok (.dup, 1) := by decide +kernel
theorem dX11_undo_12 : decode cX11_undo 12 = .ok (.getfield 93, 3) := by decide +kernel
theorem dX11_undo_15 : decode cX11_undo 15 = .ok (.iconst 1, 1) := by decide +kernel
theorem dX11_undo_16 : decode cX11_undo 16 = .ok (.isub, 1) := by decide +kernel
theorem dX11_undo_17 : decode cX11_undo 17 = .ok (.putfield 93, 3) := by decide +kernel
theorem dX11_undo_20 : decode cX11_undo 20 = .ok (.aload_n 0, 1) := by decide +kernel
theorem dX11_undo_21 : decode cX11_undo 21 = .ok (.getfield 44, 3) := by decide +kernel
theorem dX11_undo_24 : decode cX11_undo 24 = .ok (.aload_n 0, 1) := by decide +kernel
theorem dX11_undo_25 : decode cX11_undo 25 = .ok (.getfield 93, 3) := by decide +kernel
theorem dX11_undo_28 : decode cX11_undo 28 = .ok (.iaload, 1) := by decide +kernel
theorem dX11_undo_29 : decode cX11_undo 29 = .ok (.istore_n 1, 1) := by decide +kernel
theorem dX11_undo_30 : decode cX11_undo 30 = .ok (.aload_n 0, 1) := by decide +kernel
theorem dX11_undo_31 : decode cX11_undo 31 = .ok (.getfield 41, 3) := by decide +kernel
theorem dX11_undo_34 : decode cX11_undo 34 = .ok (.aload_n 0, 1) := by decide +kernel
theorem dX11_undo_35 : decode cX11_undo 35 = .ok (.getfield 93, 3) := by decide +kernel
theorem dX11_undo_38 : decode cX11_undo 38 = .ok (.iaload, 1) := by decide +kernel
theorem dX11_undo_39 : decode cX11_undo 39 = .ok (.ifCond .ne 18, 3) := by decide +kernel
theorem dX11_undo_42 : decode cX11_undo 42 = .ok (.aload_n 0, 1) := by decide +kernel
theorem dX11_undo_43 : decode cX11_undo 43 = .ok (.dup, 1) := by decide +kernel
theorem dX11_undo_44 : decode cX11_undo 44 = .ok (.getfield 86, 3) := by decide +kernel
theorem dX11_undo_47 : decode cX11_undo 47 = .ok (.iconst 1, 1) := by decide +kernel
theorem dX11_undo_48 : decode cX11_undo 48 = .ok (.isub, 1) := by decide +kernel
theorem dX11_undo_49 : decode cX11_undo 49 = .ok (.putfield 86, 3) := by decide +kernel
theorem dX11_undo_52 : decode cX11_undo 52 = .ok (.aload_n 0, 1) := by decide +kernel
theorem dX11_undo_53 : decode cX11_undo 53 = .ok (.getfield 93, 3) := by decide +kernel
theorem dX11_undo_56 : decode cX11_undo 56 = .ok (.ireturn, 1) := by decide +kernel
theorem dX11_undo_57 : decode cX11_undo 57 = .ok (.aload_n 0, 1) := by decide +kernel
theorem dX11_undo_58 : decode cX11_undo 58 = .ok (.dup, 1) := by decide +kernel
theorem dX11_undo_59 : decode cX11_undo 59 = .ok (.getfield 86, 3) := by decide +kernel
theorem dX11_undo_62 : decode cX11_undo 62 = .ok (.aload_n 0, 1) := by decide +kernel
theorem dX11_undo_63 : decode cX11_undo 63 = .ok (.getfield 41, 3) := by decide +kernel
theorem dX11_undo_66 : decode cX11_undo 66 = .ok (.aload_n 0, 1) := by decide +kernel
theorem dX11_undo_67 : decode cX11_undo 67 = .ok (.getfield 93, 3) := by decide +kernel
theorem dX11_undo_70 : decode cX11_undo 70 = .ok (.iaload, 1) := by decide +kernel
theorem dX11_undo_71 : decode cX11_undo 71 = .ok (.iconst 1, 1) := by decide +kernel
theorem dX11_undo_72 : decode cX11_undo 72 = .ok (.if_icmp .ne 7, 3) := by decide +kernel
theorem dX11_undo_75 : decode cX11_undo 75 = .ok (.iconst 1, 1) := by decide +kernel
theorem dX11_undo_76 : decode cX11_undo 76 = .ok (.goto 4, 3) := by decide +kernel
theorem dX11_undo_79 : decode cX11_undo 79 = .ok (.iconst 0, 1) := by decide +kernel
theorem dX11_undo_80 : decode cX11_undo 80 = .ok (.iadd, 1) := by decide +kernel
theorem dX11_undo_81 : decode cX11_undo 81 = .ok (.putfield 86, 3) := by decide +kernel
theorem dX11_undo_84 : decode cX11_undo 84 = .ok (.aload_n 0, 1) := by decide +kernel
theorem dX11_undo_85 : decode cX11_undo 85 = .ok (.getfield 15, 3) := by decide +kernel
theorem dX11_undo_88 : decode cX11_undo 88 = .ok (.iload_n 1, 1) := by decide +kernel
theorem dX11_undo_89 : decode cX11_undo 89 = .ok (.aload_n 0, 1) := by decide +kernel
theorem dX11_undo_90 : decode cX11_undo 90 = .ok (.getfield 47, 3) := by decide +kernel
theorem dX11_undo_93 : decode cX11_undo 93 = .ok (.aload_n 0, 1) := by decide +kernel
theorem dX11_undo_94 : decode cX11_undo 94 = .ok (.getfield 93, 3) := by decide +kernel
theorem dX11_undo_97 : decode cX11_undo 97 = .ok (.iaload, 1) := by decide +kernel
theorem dX11_undo_98 : decode cX11_undo 98 = .ok (.iastore, 1) := by decide +kernel
theorem dX11_undo_99 : decode cX11_undo 99 = .ok (.aload_n 0, 1) := by decide +kernel
theorem dX11_undo_100 : decode cX11_undo 100 = .ok (.getfield 19, 3) := by decide +kernel
theorem dX11_undo_103 : decode cX11_undo 103 = .ok (.iload_n 1, 1) := by decide +kernel
theorem dX11_undo_104 : decode cX11_undo 104 = .ok (.aload_n 0, 1) := by decide +kernel
theorem dX11_undo_105 : decode cX11_undo 105 = .ok (.getfield 50, 3) := by decide +kernel
theorem dX11_undo_108 : decode cX11_undo 108 = .ok (.aload_n 0, 1) := by decide +kernel
theorem dX11_undo_109 : decode cX11_undo 109 = .ok (.getfield 93, 3) := by decide +kernel
theorem dX11_undo_112 : decode cX11_undo 112 = .ok (.iaload, 1) := by decide +kernel
theorem dX11_undo_113 : decode cX11_undo 113 = .ok (.iastore, 1) := by decide +kernel
theorem dX11_undo_114 : decode cX11_undo 114 = .ok (.aload_n 0, 1) := by decide +kernel
theorem dX11_undo_115 : decode cX11_undo 115 = .ok (.getfield 22, 3) := by decide +kernel
theorem dX11_undo_118 : decode cX11_undo 118 = .ok (.iload_n 1, 1) := by decide +kernel
theorem dX11_undo_119 : decode cX11_undo 119 = .ok (.aload_n 0, 1) := by decide +kernel
theorem dX11_undo_120 : decode cX11_undo 120 = .ok (.getfield 53, 3) := by decide +kernel
theorem dX11_undo_123 : decode cX11_undo 123 = .ok (.aload_n 0, 1) := by decide +kernel
theorem dX11_undo_124 : decode cX11_undo 124 = .ok (.getfield 93, 3) := by decide +kernel
theorem dX11_undo_127 : decode cX11_undo 127 = .ok (.iaload, 1) := by decide +kernel
theorem dX11_undo_128 : decode cX11_undo 128 = .ok (.iastore, 1) := by decide +kernel
theorem dX11_undo_129 : decode cX11_undo 129 = .ok (.aload_n 0, 1) := by decide +kernel
theorem dX11_undo_130 : decode cX11_undo 130 = .ok (.getfield 25, 3) := by decide +kernel
theorem dX11_undo_133 : decode cX11_undo 133 = .ok (.iload_n 1, 1) := by decide +kernel
theorem dX11_undo_134 : decode cX11_undo 134 = .ok (.aload_n 0, 1) := by decide +kernel
theorem dX11_undo_135 : decode cX11_undo 135 = .ok (.getfield 56, 3) := by decide +kernel
theorem dX11_undo_138 : decode cX11_undo 138 = .ok (.aload_n 0, 1) := by decide +kernel
theorem dX11_undo_139 : decode cX11_undo 139 = .ok (.getfield 93, 3) := by decide +kernel
theorem dX11_undo_142 : decode cX11_undo 142 = .ok (.laload, 1) := by decide +kernel
theorem dX11_undo_143 : decode cX11_undo 143 = .ok (.lastore, 1) := by decide +kernel
theorem dX11_undo_144 : decode cX11_undo 144 = .ok (.aload_n 0, 1) := by decide +kernel
theorem dX11_undo_145 : decode cX11_undo 145 = .ok (.getfield 93, 3) := by decide +kernel
theorem dX11_undo_148 : decode cX11_undo 148 = .ok (.ireturn, 1) := by decide +kernel
theorem dX11_feed_0 : decode cX11_feed 0 = .ok (.iload_n 3, 1) := by decide +kernel
theorem dX11_feed_1 : decode cX11_feed 1 = .ok (.iconst 1, 1) := by decide +kernel
theorem dX11_feed_2 : decode cX11_feed 2 = .ok (.bipush 8, 2) := by decide +kernel
theorem dX11_feed_4 : decode cX11_feed 4 = .ok (.invokestatic 89, 3) := by decide +kernel
theorem dX11_feed_7 : decode cX11_feed 7 = .ok (.ifCond .ne 5, 3) := by decide +kernel
theorem dX11_feed_10 : decode cX11_feed 10 = .ok (.iconst (-1), 1) := by decide +kernel
theorem dX11_feed_11 : decode cX11_feed 11 = .ok (.ireturn, 1) := by decide +kernel
theorem dX11_feed_12 : decode cX11_feed 12 = .ok (.aload_n 0, 1) := by decide +kernel
theorem dX11_feed_13 : decode cX11_feed 13 = .ok (.getfield 117, 3) := by decide +kernel
theorem dX11_feed_16 : decode cX11_feed 16 = .ok (.iload_n 3, 1) := by decide +kernel
theorem dX11_feed_17 : decode cX11_feed 17 = .ok (.iadd, 1) := by decide +kernel
theorem dX11_feed_18 : decode cX11_feed 18 = .ok (.bipush 100, 2) := by decide +kernel
theorem dX11_feed_20 : decode cX11_feed 20 = .ok (.if_icmp .le 6, 3) := by decide +kernel
theorem dX11_feed_23 : decode cX11_feed 23 = .ok (.bipush (-2), 2) := by decide +kernel
theorem dX11_feed_25 : decode cX11_feed 25 = .ok (.ireturn, 1) := by decide +kernel
theorem dX11_feed_26 : decode cX11_feed 26 = .ok (.iconst 0, 1) := by decide +kernel
theorem dX11_feed_27 : decode cX11_feed 27 = .ok (.istore 4, 2) := by decide +kernel
theorem dX11_feed_29 : decode cX11_feed 29 = .ok (.iload 4, 2) := by decide +kernel
theorem dX11_feed_31 : decode cX11_feed 31 = .ok (.iload_n 3, 1) := by decide +kernel
theorem dX11_feed_32 : decode cX11_feed 32 = .ok (.if_icmp .ge 40, 3) := by decide +kernel
theorem dX11_feed_35 : decode cX11_feed 35 = .ok (.aload_n 0, 1) := by decide +kernel
theorem dX11_feed_36 : decode cX11_feed 36 = .ok (.getfield 59, 3) := by decide +kernel
theorem dX11_feed_39 : decode cX11_feed 39 = .ok (.aload_n 0, 1) := by decide +kernel
theorem dX11_feed_40 : decode cX11_feed 40 = .ok (.getfield 117, 3) := by decide +kernel
theorem dX11_feed_43 : decode cX11_feed 43 = .ok (.lload_n 1, 1) := by decide +kernel
theorem dX11_feed_44 : decode cX11_feed 44 = .ok (.bipush 8, 2) := by decide +kernel
theorem dX11_feed_46 : decode cX11_feed 46 = .ok (.iload 4, 2) := by decide +kernel
theorem dX11_feed_48 : decode cX11_feed 48 = .ok (.imul, 1) := by decide +kernel
theorem dX11_feed_49 : decode cX11_feed 49 = .ok (.lshr, 1) := by decide +kernel
theorem dX11_feed_50 : decode cX11_feed 50 = .ok (.ldc2_w 120, 3) := by decide +kernel
theorem dX11_feed_53 : decode cX11_feed 53 = .ok (.land, 1) := by decide +kernel
theorem dX11_feed_54 : decode cX11_feed 54 = .ok (.l2i, 1) := by decide +kernel
theorem dX11_feed_55 : decode cX11_feed 55 = .ok (.iastore, 1) := by decide +kernel
theorem dX11_feed_56 : decode cX11_feed 56 = .ok (.aload_n 0, 1) := by decide +kernel
theorem dX11_feed_57 : decode cX11_feed 57 = .ok (.dup, 1) := by decide +kernel
theorem dX11_feed_58 : decode cX11_feed 58 = .ok (.getfield 117, 3) := by decide +kernel
theorem dX11_feed_61 : decode cX11_feed 61 = .ok (.iconst 1, 1) := by decide +kernel
theorem dX11_feed_62 : decode cX11_feed 62 = .ok (.iadd, 1) := by decide +kernel
theorem dX11_feed_63 : decode cX11_feed 63 = .ok (.putfield 117, 3) := by decide +kernel
theorem dX11_feed_66 : decode cX11_feed 66 = .ok (.iinc 4 1, 3) := by decide +kernel
theorem dX11_feed_69 : decode cX11_feed 69 = .ok (.goto (-40), 3) := by decide +kernel
theorem dX11_feed_72 : decode cX11_feed 72 = .ok (.aload_n 0, 1) := by decide +kernel
theorem dX11_feed_73 : decode cX11_feed 73 = .ok (.getfield 117, 3) := by decide +kernel
theorem dX11_feed_76 : decode cX11_feed 76 = .ok (.ireturn, 1) := by decide +kernel
theorem dX11_isAt_0 : decode cX11_isAt 0 = .ok (.iload_n 1, 1) := by decide +kernel
theorem dX11_isAt_1 : decode cX11_isAt 1 = .ok (.aload_n 0, 1) := by decide +kernel
theorem dX11_isAt_2 : decode cX11_isAt 2 = .ok (.getfield 117, 3) := by decide +kernel
theorem dX11_isAt_5 : decode cX11_isAt 5 = .ok (.if_icmp .ge 21, 3) := by decide +kernel
theorem dX11_isAt_8 : decode cX11_isAt 8 = .ok (.aload_n 0, 1) := by decide +kernel
theorem dX11_isAt_9 : decode cX11_isAt 9 = .ok (.getfield 59, 3) := by decide +kernel
theorem dX11_isAt_12 : decode cX11_isAt 12 = .ok (.iload_n 1, 1) := by decide +kernel
theorem dX11_isAt_13 : decode cX11_isAt 13 = .ok (.iaload, 1) := by decide +kernel
theorem dX11_isAt_14 : decode cX11_isAt 14 = .ok (.iload_n 2, 1) := by decide +kernel
theorem dX11_isAt_15 : decode cX11_isAt 15 = .ok (.iload_n 3, 1) := by decide +kernel
theorem dX11_isAt_16 : decode cX11_isAt 16 = .ok (.invokestatic 89, 3) := by decide +kernel
theorem dX11_isAt_19 : decode cX11_isAt 19 = .ok (.ifCond .eq 7, 3) := by decide +kernel
theorem dX11_isAt_22 : decode cX11_isAt 22 = .ok (.iconst 1, 1) := by decide +kernel
theorem dX11_isAt_23 : decode cX11_isAt 23 = .ok (.goto 4, 3) := by decide +kernel
theorem dX11_isAt_26 : decode cX11_isAt 26 = .ok (.iconst 0, 1) := by decide +kernel
theorem dX11_isAt_27 : decode cX11_isAt 27 = .ok (.ireturn, 1) := by decide +kernel
theorem dX11_next_0 : decode cX11_next 0 = .ok (.aload_n 0, 1) := by decide +kernel
theorem dX11_next_1 : decode cX11_next 1 = .ok (.aload_n 0, 1) := by decide +kernel
theorem dX11_next_2 : decode cX11_next 2 = .ok (.getfield 122, 3) := by decide +kernel
theorem dX11_next_5 : decode cX11_next 5 = .ok (.putfield 125, 3) := by decide +kernel
theorem dX11_next_8 : decode cX11_next 8 = .ok (.aload_n 0, 1) := by decide +kernel
theorem dX11_next_9 : decode cX11_next 9 = .ok (.aload_n 0, 1) := by decide +kernel
theorem dX11_next_10 : decode cX11_next 10 = .ok (.getfield 125, 3) := by decide +kernel
theorem dX11_next_13 : decode cX11_next 13 = .ok (.bipush 32, 2) := by decide +kernel
theorem dX11_next_15 : decode cX11_next 15 = .ok (.bipush 32, 2) := by decide +kernel
theorem dX11_next_17 : decode cX11_next 17 = .ok (.invokevirtual 128, 3) := by decide +kernel
theorem dX11_next_20 : decode cX11_next 20 = .ok (.ifCond .eq 16, 3) := by decide +kernel
theorem dX11_next_23 : decode cX11_next 23 = .ok (.aload_n 0, 1) := by decide +kernel
theorem dX11_next_24 : decode cX11_next 24 = .ok (.dup, 1) := by decide +kernel
theorem dX11_next_25 : decode cX11_next 25 = .ok (.getfield 125, 3) := by decide +kernel
theorem dX11_next_28 : decode cX11_next 28 = .ok (.iconst 1, 1) := by decide +kernel
theorem dX11_next_29 : decode cX11_next 29 = .ok (.iadd, 1) := by decide +kernel
theorem dX11_next_30 : decode cX11_next 30 = .ok (.putfield 125, 3) := by decide +kernel
theorem dX11_next_33 : decode cX11_next 33 = .ok (.goto (-25), 3) := by decide +kernel
theorem dX11_next_36 : decode cX11_next 36 = .ok (.aload_n 0, 1) := by decide +kernel
theorem dX11_next_37 : decode cX11_next 37 = .ok (.aload_n 0, 1) := by decide +kernel
theorem dX11_next_38 : decode cX11_next 38 = .ok (.getfield 125, 3) := by decide +kernel
theorem dX11_next_41 : decode cX11_next 41 = .ok (.putfield 122, 3) := by decide +kernel
theorem dX11_next_44 : decode cX11_next 44 = .ok (.aload_n 0, 1) := by decide +kernel
theorem dX11_next_45 : decode cX11_next 45 = .ok (.aload_n 0, 1) := by decide +kernel
theorem dX11_next_46 : decode cX11_next 46 = .ok (.getfield 125, 3) := by decide +kernel
theorem dX11_next_49 : decode cX11_next 49 = .ok (.bipush 97, 2) := by decide +kernel
theorem dX11_next_51 : decode cX11_next 51 = .ok (.bipush 122, 2) := by decide +kernel
theorem dX11_next_53 : decode cX11_next 53 = .ok (.invokevirtual 128, 3) := by decide +kernel
theorem dX11_next_56 : decode cX11_next 56 = .ok (.ifCond .eq 31, 3) := by decide +kernel
theorem dX11_next_59 : decode cX11_next 59 = .ok (.aload_n 0, 1) := by decide +kernel
theorem dX11_next_60 : decode cX11_next 60 = .ok (.aload_n 0, 1) := by decide +kernel
theorem dX11_next_61 : decode cX11_next 61 = .ok (.getfield 122, 3) := by decide +kernel
theorem dX11_next_64 : decode cX11_next 64 = .ok (.bipush 97, 2) := by decide +kernel
theorem dX11_next_66 : decode cX11_next 66 = .ok (.bipush 122, 2) := by decide +kernel
theorem dX11_next_68 : decode cX11_next 68 = .ok (.invokevirtual 128, 3) := by decide +kernel
theorem dX11_next_71 : decode cX11_next 71 = .ok (.ifCond .eq 80, 3) := by decide +kernel
theorem dX11_next_74 : decode cX11_next 74 = .ok (.aload_n 0, 1) := by decide +kernel
theorem dX11_next_75 : decode cX11_next 75 = .ok (.dup, 1) := by decide +kernel
theorem dX11_next_76 : decode cX11_next 76 = .ok (.getfield 122, 3) := by decide +kernel
theorem dX11_next_79 : decode cX11_next 79 = .ok (.iconst 1, 1) := by decide +kernel
theorem dX11_next_80 : decode cX11_next 80 = .ok (.iadd, 1) := by decide +kernel
theorem dX11_next_81 : decode cX11_next 81 = .ok (.putfield 122, 3) := by decide +kernel
theorem dX11_next_84 : decode cX11_next 84 = .ok (.goto (-25), 3) := by decide +kernel
theorem dX11_next_87 : decode cX11_next 87 = .ok (.aload_n 0, 1) := by decide +kernel
theorem dX11_next_88 : decode cX11_next 88 = .ok (.aload_n 0, 1) := by decide +kernel
theorem dX11_next_89 : decode cX11_next 89 = .ok (.getfield 125, 3) := by decide +kernel
theorem dX11_next_92 : decode cX11_next 92 = .ok (.bipush 48, 2) := by decide +kernel
theorem dX11_next_94 : decode cX11_next 94 = .ok (.bipush 57, 2) := by decide +kernel
theorem dX11_next_96 : decode cX11_next 96 = .ok (.invokevirtual 128, 3) := by decide +kernel
theorem dX11_next_99 : decode cX11_next 99 = .ok (.ifCond .eq 31, 3) := by decide +kernel
theorem dX11_next_102 : decode cX11_next 102 = .ok (.aload_n 0, 1) := by decide +kernel
theorem dX11_next_103 : decode cX11_next 103 = .ok (.aload_n 0, 1) := by decide +kernel
theorem dX11_next_104 : decode cX11_next 104 = .ok (.getfield 122, 3) := by decide +kernel
theorem dX11_next_107 : decode cX11_next 107 = .ok (.bipush 48, 2) := by decide +kernel
theorem dX11_next_109 : decode cX11_next 109 = .ok (.bipush 57, 2) := by decide +kernel
theorem dX11_next_111 : decode cX11_next 111 = .ok (.invokevirtual 128, 3) := by decide +kernel
theorem dX11_next_114 : decode cX11_next 114 = .ok (.ifCond .eq 37, 3) := by decide +kernel
theorem dX11_next_117 : decode cX11_next 117 = .ok (.aload_n 0, 1) := by decide +kernel
theorem dX11_next_118 : decode cX11_next 118 = .ok (.dup, 1) := by decide +kernel
theorem dX11_next_119 : decode cX11_next 119 = .ok (.getfield 122, 3) := by decide +kernel
theorem dX11_next_122 : decode cX11_next 122 = .ok (.iconst 1, 1) := by decide +kernel
theorem dX11_next_123 : decode cX11_next 123 = .ok (.iadd, 1) := by decide +kernel
theorem dX11_next_124 : decode cX11_next 124 = .ok (.putfield 122, 3) := by decide +kernel
theorem dX11_next_127 : decode cX11_next 127 = .ok (.goto (-25), 3) := by decide +kernel
theorem dX11_next_130 : decode cX11_next 130 = .ok (.aload_n 0, 1) := by decide +kernel
theorem dX11_next_131 : decode cX11_next 131 = .ok (.getfield 125, 3) := by decide +kernel
theorem dX11_next_134 : decode cX11_next 134 = .ok (.aload_n 0, 1) := by decide +kernel
theorem dX11_next_135 : decode cX11_next 135 = .ok (.getfield 117, 3) := by decide +kernel
theorem dX11_next_138 : decode cX11_next 138 = .ok (.if_icmp .ge 13, 3) := by decide +kernel
theorem dX11_next_141 : decode cX11_next 141 = .ok (.aload_n 0, 1) := by decide +kernel
theorem dX11_next_142 : decode cX11_next 142 = .ok (.dup, 1) := by decide +kernel
theorem dX11_next_143 : decode cX11_next 143 = .ok (.getfield 122, 3) := by decide +kernel
theorem dX11_next_146 : decode cX11_next 146 = .ok (.iconst 1, 1) := by decide +kernel
theorem dX11_next_147 : decode cX11_next 147 = .ok (.iadd, 1) := by decide +kernel
theorem dX11_next_148 : decode cX11_next 148 = .ok (.putfield 122, 3) := by decide +kernel
theorem dX11_next_151 : decode cX11_next 151 = .ok (.return_, 1) := by decide +kernel
theorem dX11_here_0 : decode cX11_here 0 = .ok (.iconst 0, 1) := by decide +kernel
theorem dX11_here_1 : decode cX11_here 1 = .ok (.istore_n 1, 1) := by decide +kernel
theorem dX11_here_2 : decode cX11_here 2 = .ok (.aload_n 0, 1) := by decide +kernel
theorem dX11_here_3 : decode cX11_here 3 = .ok (.getfield 125, 3) := by decide +kernel
theorem dX11_here_6 : decode cX11_here 6 = .ok (.istore_n 2, 1) := by decide +kernel
theorem dX11_here_7 : decode cX11_here 7 = .ok (.iload_n 2, 1) := by decide +kernel
theorem dX11_here_8 : decode cX11_here 8 = .ok (.aload_n 0, 1) := by decide +kernel
theorem dX11_here_9 : decode cX11_here 9 = .ok (.getfield 122, 3) := by decide +kernel
theorem dX11_here_12 : decode cX11_here 12 = .ok (.if_icmp .ge 53, 3) := by decide +kernel
theorem dX11_here_15 : decode cX11_here 15 = .ok (.aload_n 0, 1) := by decide +kernel
theorem dX11_here_16 : decode cX11_here 16 = .ok (.iload_n 2, 1) := by decide +kernel
theorem dX11_here_17 : decode cX11_here 17 = .ok (.bipush 97, 2) := by decide +kernel
theorem dX11_here_19 : decode cX11_here 19 = .ok (.bipush 122, 2) := by decide +kernel
theorem dX11_here_21 : decode cX11_here 21 = .ok (.invokevirtual 128, 3) := by decide +kernel
theorem dX11_here_24 : decode cX11_here 24 = .ok (.ifCond .eq 41, 3) := by decide +kernel
theorem dX11_here_27 : decode cX11_here 27 = .ok (.aload_n 0, 1) := by decide +kernel
theorem dX11_here_28 : decode cX11_here 28 = .ok (.getfield 122, 3) := by decide +kernel
theorem dX11_here_31 : decode cX11_here 31 = .ok (.aload_n 0, 1) := by decide +kernel
theorem dX11_here_32 : decode cX11_here 32 = .ok (.getfield 125, 3) := by decide +kernel
theorem dX11_here_35 : decode cX11_here 35 = .ok (.isub, 1) := by decide +kernel
theorem dX11_here_36 : decode cX11_here 36 = .ok (.iconst 5, 1) := by decide +kernel
theorem dX11_here_37 : decode cX11_here 37 = .ok (.if_icmp .le 7, 3) := by decide +kernel
theorem dX11_here_40 : decode cX11_here 40 = .ok (.iconst (-1), 1) := by decide +kernel
theorem dX11_here_41 : decode cX11_here 41 = .ok (.goto 17, 3) := by decide +kernel
theorem dX11_here_44 : decode cX11_here 44 = .ok (.bipush 27, 2) := by decide +kernel
theorem dX11_here_46 : decode cX11_here 46 = .ok (.iload_n 1, 1) := by decide +kernel
theorem dX11_here_47 : decode cX11_here 47 = .ok (.imul, 1) := by decide +kernel
theorem dX11_here_48 : decode cX11_here 48 = .ok (.aload_n 0, 1) := by decide +kernel
theorem dX11_here_49 : decode cX11_here 49 = .ok (.getfield 59, 3) := by decide +kernel
theorem dX11_here_52 : decode cX11_here 52 = .ok (.iload_n 2, 1) := by decide +kernel
theorem dX11_here_53 : decode cX11_here 53 = .ok (.iaload, 1) := by decide +kernel
theorem dX11_here_54 : decode cX11_here 54 = .ok (.iadd, 1) := by decide +kernel
theorem dX11_here_55 : decode cX11_here 55 = .ok (.bipush 96, 2) := by decide +kernel
theorem dX11_here_57 : decode cX11_here 57 = .ok (.isub, 1) := by decide +kernel
theorem dX11_here_58 : decode cX11_here 58 = .ok (.istore_n 1, 1) := by decide +kernel
theorem dX11_here_59 : decode cX11_here 59 = .ok (.iinc 2 1, 3) := by decide +kernel
theorem dX11_here_62 : decode cX11_here 62 = .ok (.goto (-55), 3) := by decide +kernel
theorem dX11_here_65 : decode cX11_here 65 = .ok (.iload_n 1, 1) := by decide +kernel
theorem dX11_here_66 : decode cX11_here 66 = .ok (.ireturn, 1) := by decide +kernel
theorem dX11_takes_0 : decode cX11_takes 0 = .ok (.aload_n 0, 1) := by decide +kernel
theorem dX11_takes_1 : decode cX11_takes 1 = .ok (.getfield 131, 3) := by decide +kernel
theorem dX11_takes_4 : decode cX11_takes 4 = .ok (.ifCond .ne 11, 3) := by decide +kernel
theorem dX11_takes_7 : decode cX11_takes 7 = .ok (.aload_n 0, 1) := by decide +kernel
theorem dX11_takes_8 : decode cX11_takes 8 = .ok (.invokevirtual 135, 3) := by decide +kernel
theorem dX11_takes_11 : decode cX11_takes 11 = .ok (.iload_n 1, 1) := by decide +kernel
theorem dX11_takes_12 : decode cX11_takes 12 = .ok (.if_icmp .eq 5, 3) := by decide +kernel
theorem dX11_takes_15 : decode cX11_takes 15 = .ok (.iconst 0, 1) := by decide +kernel
theorem dX11_takes_16 : decode cX11_takes 16 = .ok (.ireturn, 1) := by decide +kernel
theorem dX11_takes_17 : decode cX11_takes 17 = .ok (.aload_n 0, 1) := by decide +kernel
theorem dX11_takes_18 : decode cX11_takes 18 = .ok (.invokevirtual 139, 3) := by decide +kernel
theorem dX11_takes_21 : decode cX11_takes 21 = .ok (.iconst 1, 1) := by decide +kernel
theorem dX11_takes_22 : decode cX11_takes 22 = .ok (.ireturn, 1) := by decide +kernel
theorem dX11_takesSign_0 : decode cX11_takesSign 0 = .ok (.aload_n 0, 1) := by decide +kernel
theorem dX11_takesSign_1 : decode cX11_takesSign 1 = .ok (.getfield 131, 3) := by decide +kernel
theorem dX11_takesSign_4 : decode cX11_takesSign 4 = .ok (.ifCond .ne 16, 3) := by decide +kernel
theorem dX11_takesSign_7 : decode cX11_takesSign 7 = .ok (.aload_n 0, 1) := by decide +kernel
theorem dX11_takesSign_8 : decode cX11_takesSign 8 = .ok (.aload_n 0, 1) := by decide +kernel
theorem dX11_takesSign_9 : decode cX11_takesSign 9 = .ok (.getfield 125, 3) := by decide +kernel
theorem dX11_takesSign_12 : decode cX11_takesSign 12 = .ok (.iload_n 1, 1) := by decide +kernel
theorem dX11_takesSign_13 : decode cX11_takesSign 13 = .ok (.iload_n 1, 1) := by decide +kernel
theorem dX11_takesSign_14 : decode cX11_takesSign 14 = .ok (.invokevirtual 128, 3) := by decide +kernel
theorem dX11_takesSign_17 : decode cX11_takesSign 17 = .ok (.ifCond .ne 5, 3) := by decide +kernel
theorem dX11_takesSign_20 : decode cX11_takesSign 20 = .ok (.iconst 0, 1) := by decide +kernel
theorem dX11_takesSign_21 : decode cX11_takesSign 21 = .ok (.ireturn, 1) := by decide +kernel
theorem dX11_takesSign_22 : decode cX11_takesSign 22 = .ok (.aload_n 0, 1) := by decide +kernel
theorem dX11_takesSign_23 : decode cX11_takesSign 23 = .ok (.invokevirtual 139, 3) := by decide +kernel
theorem dX11_takesSign_26 : decode cX11_takesSign 26 = .ok (.iconst 1, 1) := by decide +kernel
theorem dX11_takesSign_27 : decode cX11_takesSign 27 = .ok (.ireturn, 1) := by decide +kernel
theorem dX11_number_0 : decode cX11_number 0 = .ok (.iconst 0, 1) := by decide +kernel
theorem dX11_number_1 : decode cX11_number 1 = .ok (.istore_n 2, 1) := by decide +kernel
theorem dX11_number_2 : decode cX11_number 2 = .ok (.aload_n 0, 1) := by decide +kernel
theorem dX11_number_3 : decode cX11_number 3 = .ok (.getfield 125, 3) := by decide +kernel
theorem dX11_number_6 : decode cX11_number 6 = .ok (.istore_n 3, 1) := by decide +kernel
theorem dX11_number_7 : decode cX11_number 7 = .ok (.iload_n 3, 1) := by decide +kernel
theorem dX11_number_8 : decode cX11_number 8 = .ok (.aload_n 0, 1) := by decide +kernel
theorem dX11_number_9 : decode cX11_number 9 = .ok (.getfield 122, 3) := by decide +kernel
theorem dX11_number_12 : decode cX11_number 12 = .ok (.if_icmp .ge 52, 3) := by decide +kernel
theorem dX11_number_15 : decode cX11_number 15 = .ok (.iload_n 3, 1) := by decide +kernel
theorem dX11_number_16 : decode cX11_number 16 = .ok (.aload_n 0, 1) := by decide +kernel
theorem dX11_number_17 : decode cX11_number 17 = .ok (.getfield 125, 3) := by decide +kernel
theorem dX11_number_20 : decode cX11_number 20 = .ok (.iconst 3, 1) := by decide +kernel
theorem dX11_number_21 : decode cX11_number 21 = .ok (.iadd, 1) := by decide +kernel
theorem dX11_number_22 : decode cX11_number 22 = .ok (.if_icmp .ge 42, 3) := by decide +kernel
theorem dX11_number_25 : decode cX11_number 25 = .ok (.aload_n 0, 1) := by decide +kernel
theorem dX11_number_26 : decode cX11_number 26 = .ok (.iload_n 3, 1) := by decide +kernel
theorem dX11_number_27 : decode cX11_number 27 = .ok (.bipush 48, 2) := by decide +kernel
theorem dX11_number_29 : decode cX11_number 29 = .ok (.bipush 57, 2) := by decide +kernel
theorem dX11_number_31 : decode cX11_number 31 = .ok (.invokevirtual 128, 3) := by decide +kernel
theorem dX11_number_34 : decode cX11_number 34 = .ok (.ifCond .eq 20, 3) := by decide +kernel
theorem dX11_number_37 : decode cX11_number 37 = .ok (.bipush 10, 2) := by decide +kernel
theorem dX11_number_39 : decode cX11_number 39 = .ok (.iload_n 2, 1) := by decide +kernel
theorem dX11_number_40 : decode cX11_number 40 = .ok (.imul, 1) := by decide +kernel
theorem dX11_number_41 : decode cX11_number 41 = .ok (.aload_n 0, 1) := by decide +kernel
theorem dX11_number_42 : decode cX11_number 42 = .ok (.getfield 59, 3) := by decide +kernel
theorem dX11_number_45 : decode cX11_number 45 = .ok (.iload_n 3, 1) := by decide +kernel
theorem dX11_number_46 : decode cX11_number 46 = .ok (.iaload, 1) := by decide +kernel
theorem dX11_number_47 : decode cX11_number 47 = .ok (.iadd, 1) := by decide +kernel
theorem dX11_number_48 : decode cX11_number 48 = .ok (.bipush 48, 2) := by decide +kernel
theorem dX11_number_50 : decode cX11_number 50 = .ok (.isub, 1) := by decide +kernel
theorem dX11_number_51 : decode cX11_number 51 = .ok (.goto 6, 3) := by decide +kernel
theorem dX11_number_54 : decode cX11_number 54 = .ok (.sipush (-1000), 3) := by decide +kernel
theorem dX11_number_57 : decode cX11_number 57 = .ok (.istore_n 2, 1) := by decide +kernel
theorem dX11_number_58 : decode cX11_number 58 = .ok (.iinc 3 1, 3) := by decide +kernel
theorem dX11_number_61 : decode cX11_number 61 = .ok (.goto (-54), 3) := by decide +kernel
theorem dX11_number_64 : decode cX11_number 64 = .ok (.aload_n 0, 1) := by decide +kernel
theorem dX11_number_65 : decode cX11_number 65 = .ok (.aload_n 0, 1) := by decide +kernel
theorem dX11_number_66 : decode cX11_number 66 = .ok (.getfield 131, 3) := by decide +kernel
theorem dX11_number_69 : decode cX11_number 69 = .ok (.ifCond .ne 32, 3) := by decide +kernel
theorem dX11_number_72 : decode cX11_number 72 = .ok (.aload_n 0, 1) := by decide +kernel
theorem dX11_number_73 : decode cX11_number 73 = .ok (.getfield 122, 3) := by decide +kernel
theorem dX11_number_76 : decode cX11_number 76 = .ok (.aload_n 0, 1) := by decide +kernel
theorem dX11_number_77 : decode cX11_number 77 = .ok (.getfield 125, 3) := by decide +kernel
theorem dX11_number_80 : decode cX11_number 80 = .ok (.if_icmp .eq 21, 3) := by decide +kernel
theorem dX11_number_83 : decode cX11_number 83 = .ok (.aload_n 0, 1) := by decide +kernel
theorem dX11_number_84 : decode cX11_number 84 = .ok (.getfield 122, 3) := by decide +kernel
theorem dX11_number_87 : decode cX11_number 87 = .ok (.aload_n 0, 1) := by decide +kernel
theorem dX11_number_88 : decode cX11_number 88 = .ok (.getfield 125, 3) := by decide +kernel
theorem dX11_number_91 : decode cX11_number 91 = .ok (.isub, 1) := by decide +kernel
theorem dX11_number_92 : decode cX11_number 92 = .ok (.iconst 2, 1) := by decide +kernel
theorem dX11_number_93 : decode cX11_number 93 = .ok (.if_icmp .gt 8, 3) := by decide +kernel
theorem dX11_number_96 : decode cX11_number 96 = .ok (.iload_n 2, 1) := by decide +kernel
theorem dX11_number_97 : decode cX11_number 97 = .ok (.iload_n 1, 1) := by decide +kernel
theorem dX11_number_98 : decode cX11_number 98 = .ok (.if_icmp .ge 7, 3) := by decide +kernel
theorem dX11_number_101 : decode cX11_number 101 = .ok (.iconst 1, 1) := by decide +kernel
theorem dX11_number_102 : decode cX11_number 102 = .ok (.goto 4, 3) := by decide +kernel
theorem dX11_number_105 : decode cX11_number 105 = .ok (.iconst 0, 1) := by decide +kernel
theorem dX11_number_106 : decode cX11_number 106 = .ok (.putfield 131, 3) := by decide +kernel
theorem dX11_number_109 : decode cX11_number 109 = .ok (.aload_n 0, 1) := by decide +kernel
theorem dX11_number_110 : decode cX11_number 110 = .ok (.getfield 131, 3) := by decide +kernel
theorem dX11_number_113 : decode cX11_number 113 = .ok (.ifCond .ne 7, 3) := by decide +kernel
theorem dX11_number_116 : decode cX11_number 116 = .ok (.aload_n 0, 1) := by decide +kernel
theorem dX11_number_117 : decode cX11_number 117 = .ok (.invokevirtual 139, 3) := by decide +kernel
theorem dX11_number_120 : decode cX11_number 120 = .ok (.iload_n 2, 1) := by decide +kernel
theorem dX11_number_121 : decode cX11_number 121 = .ok (.ireturn, 1) := by decide +kernel
theorem dX11_multiples_0 : decode cX11_multiples 0 = .ok (.lconst 0, 1) := by decide +kernel
theorem dX11_multiples_1 : decode cX11_multiples 1 = .ok (.lstore_n 1, 1) := by decide +kernel
theorem dX11_multiples_2 : decode cX11_multiples 2 = .ok (.iconst 0, 1) := by decide +kernel
theorem dX11_multiples_3 : decode cX11_multiples 3 = .ok (.istore_n 3, 1) := by decide +kernel
theorem dX11_multiples_4 : decode cX11_multiples 4 = .ok (.iload_n 3, 1) := by decide +kernel
theorem dX11_multiples_5 : decode cX11_multiples 5 = .ok (.bipush 60, 2) := by decide +kernel
theorem dX11_multiples_7 : decode cX11_multiples 7 = .ok (.if_icmp .gt 20, 3) := by decide +kernel
theorem dX11_multiples_10 : decode cX11_multiples 10 = .ok (.iload_n 0, 1) := by decide +kernel
theorem dX11_multiples_11 : decode cX11_multiples 11 = .ok (.ifCond .le 16, 3) := by decide +kernel
theorem dX11_multiples_14 : decode cX11_multiples 14 = .ok (.lload_n 1, 1) := by decide +kernel
theorem dX11_multiples_15 : decode cX11_multiples 15 = .ok (.lconst 1, 1) := by decide +kernel
theorem dX11_multiples_16 : decode cX11_multiples 16 = .ok (.iload_n 3, 1) := by decide +kernel
theorem dX11_multiples_17 : decode cX11_multiples 17 = .ok (.lshl, 1) := by decide +kernel
theorem dX11_multiples_18 : decode cX11_multiples 18 = .ok (.lor, 1) := by decide +kernel
theorem dX11_multiples_19 : decode cX11_multiples 19 = .ok (.lstore_n 1, 1) := by decide +kernel
theorem dX11_multiples_20 : decode cX11_multiples 20 = .ok (.iload_n 3, 1) := by decide +kernel
theorem dX11_multiples_21 : decode cX11_multiples 21 = .ok (.iload_n 0, 1) := by decide +kernel
theorem dX11_multiples_22 : decode cX11_multiples 22 = .ok (.iadd, 1) := by decide +kernel
theorem dX11_multiples_23 : decode cX11_multiples 23 = .ok (.istore_n 3, 1) := by decide +kernel
theorem dX11_multiples_24 : decode cX11_multiples 24 = .ok (.goto (-20), 3) := by decide +kernel
theorem dX11_multiples_27 : decode cX11_multiples 27 = .ok (.lload_n 1, 1) := by decide +kernel
theorem dX11_multiples_28 : decode cX11_multiples 28 = .ok (.lreturn, 1) := by decide +kernel
theorem dX11_upTo_0 : decode cX11_upTo 0 = .ok (.iload_n 0, 1) := by decide +kernel
theorem dX11_upTo_1 : decode cX11_upTo 1 = .ok (.bipush 60, 2) := by decide +kernel
theorem dX11_upTo_3 : decode cX11_upTo 3 = .ok (.if_icmp .lt 9, 3) := by decide +kernel
theorem dX11_upTo_6 : decode cX11_upTo 6 = .ok (.ldc2_w 99, 3) := by decide +kernel
theorem dX11_upTo_9 : decode cX11_upTo 9 = .ok (.goto 18, 3) := by decide +kernel
theorem dX11_upTo_12 : decode cX11_upTo 12 = .ok (.iload_n 0, 1) := by decide +kernel
theorem dX11_upTo_13 : decode cX11_upTo 13 = .ok (.ifCond .ge 7, 3) := by decide +kernel
theorem dX11_upTo_16 : decode cX11_upTo 16 = .ok (.lconst 0, 1) := by decide +kernel
theorem dX11_upTo_17 : decode cX11_upTo 17 = .ok (.goto 10, 3) := by decide +kernel
theorem dX11_upTo_20 : decode cX11_upTo 20 = .ok (.lconst 1, 1) := by decide +kernel
theorem dX11_upTo_21 : decode cX11_upTo 21 = .ok (.iload_n 0, 1) := by decide +kernel
theorem dX11_upTo_22 : decode cX11_upTo 22 = .ok (.iconst 1, 1) := by decide +kernel
theorem dX11_upTo_23 : decode cX11_upTo 23 = .ok (.iadd, 1) := by decide +kernel
theorem dX11_upTo_24 : decode cX11_upTo 24 = .ok (.lshl, 1) := by decide +kernel
theorem dX11_upTo_25 : decode cX11_upTo 25 = .ok (.lconst 1, 1) := by decide +kernel
theorem dX11_upTo_26 : decode cX11_upTo 26 = .ok (.lsub, 1) := by decide +kernel
theorem dX11_upTo_27 : decode cX11_upTo 27 = .ok (.lreturn, 1) := by decide +kernel
theorem dX11_one_0 : decode cX11_one 0 = .ok (.aload_n 0, 1) := by decide +kernel
theorem dX11_one_1 : decode cX11_one 1 = .ok (.sipush 10631, 3) := by decide +kernel
theorem dX11_one_4 : decode cX11_one 4 = .ok (.invokevirtual 142, 3) := by decide +kernel
theorem dX11_one_7 : decode cX11_one 7 = .ok (.ifCond .eq 17, 3) := by decide +kernel
theorem dX11_one_10 : decode cX11_one 10 = .ok (.ldc2_w 99, 3) := by decide +kernel
theorem dX11_one_13 : decode cX11_one 13 = .ok (.aload_n 0, 1) := by decide +kernel
theorem dX11_one_14 : decode cX11_one 14 = .ok (.iload_n 1, 1) := by decide +kernel
theorem dX11_one_15 : decode cX11_one 15 = .ok (.invokevirtual 145, 3) := by decide +kernel
theorem dX11_one_18 : decode cX11_one 18 = .ok (.ldc2_w 149, 3) := by decide +kernel
theorem dX11_one_21 : decode cX11_one 21 = .ok (.lxor, 1) := by decide +kernel
theorem dX11_one_22 : decode cX11_one 22 = .ok (.land, 1) := by decide +kernel
theorem dX11_one_23 : decode cX11_one 23 = .ok (.lreturn, 1) := by decide +kernel
theorem dX11_one_24 : decode cX11_one 24 = .ok (.aload_n 0, 1) := by decide +kernel
theorem dX11_one_25 : decode cX11_one 25 = .ok (.sipush 1132, 3) := by decide +kernel
theorem dX11_one_28 : decode cX11_one 28 = .ok (.invokevirtual 142, 3) := by decide +kernel
theorem dX11_one_31 : decode cX11_one 31 = .ok (.ifCond .eq 7, 3) := by decide +kernel
theorem dX11_one_34 : decode cX11_one 34 = .ok (.ldc2_w 99, 3) := by decide +kernel
theorem dX11_one_37 : decode cX11_one 37 = .ok (.lreturn, 1) := by decide +kernel
theorem dX11_one_38 : decode cX11_one 38 = .ok (.aload_n 0, 1) := by decide +kernel
theorem dX11_one_39 : decode cX11_one 39 = .ok (.ldc 151, 2) := by decide +kernel
theorem dX11_one_41 : decode cX11_one 41 = .ok (.invokevirtual 142, 3) := by decide +kernel
theorem dX11_one_44 : decode cX11_one 44 = .ok (.ifCond .eq 12, 3) := by decide +kernel
theorem dX11_one_47 : decode cX11_one 47 = .ok (.aload_n 0, 1) := by decide +kernel
theorem dX11_one_48 : decode cX11_one 48 = .ok (.iconst 0, 1) := by decide +kernel
theorem dX11_one_49 : decode cX11_one 49 = .ok (.invokevirtual 152, 3) := by decide +kernel
theorem dX11_one_52 : decode cX11_one 52 = .ok (.invokestatic 155, 3) := by decide +kernel
theorem dX11_one_55 : decode cX11_one 55 = .ok (.lreturn, 1) := by decide +kernel
theorem dX11_one_56 : decode cX11_one 56 = .ok (.aload_n 0, 1) := by decide +kernel
theorem dX11_one_57 : decode cX11_one 57 = .ok (.ldc 158, 2) := by decide +kernel
theorem dX11_one_59 : decode cX11_one 59 = .ok (.invokevirtual 142, 3) := by decide +kernel
theorem dX11_one_62 : decode cX11_one 62 = .ok (.ifCond .eq 22, 3) := by decide +kernel
theorem dX11_one_65 : decode cX11_one 65 = .ok (.ldc2_w 99, 3) := by decide +kernel
theorem dX11_one_68 : decode cX11_one 68 = .ok (.aload_n 0, 1) := by decide +kernel
theorem dX11_one_69 : decode cX11_one 69 = .ok (.iconst 0, 1) := by decide +kernel
theorem dX11_one_70 : decode cX11_one 70 = .ok (.invokevirtual 152, 3) := by decide +kernel
theorem dX11_one_73 : decode cX11_one 73 = .ok (.iconst 1, 1) := by decide +kernel
theorem dX11_one_74 : decode cX11_one 74 = .ok (.isub, 1) := by decide +kernel
theorem dX11_one_75 : decode cX11_one 75 = .ok (.invokestatic 155, 3) := by decide +kernel
theorem dX11_one_78 : decode cX11_one 78 = .ok (.ldc2_w 149, 3) := by decide +kernel
theorem dX11_one_81 : decode cX11_one 81 = .ok (.lxor, 1) := by decide +kernel
theorem dX11_one_82 : decode cX11_one 82 = .ok (.land, 1) := by decide +kernel
theorem dX11_one_83 : decode cX11_one 83 = .ok (.lreturn, 1) := by decide +kernel
theorem dX11_one_84 : decode cX11_one 84 = .ok (.aload_n 0, 1) := by decide +kernel
theorem dX11_one_85 : decode cX11_one 85 = .ok (.bipush 79, 2) := by decide +kernel
theorem dX11_one_87 : decode cX11_one 87 = .ok (.invokevirtual 142, 3) := by decide +kernel
theorem dX11_one_90 : decode cX11_one 90 = .ok (.ifCond .eq 12, 3) := by decide +kernel
theorem dX11_one_93 : decode cX11_one 93 = .ok (.aload_n 0, 1) := by decide +kernel
theorem dX11_one_94 : decode cX11_one 94 = .ok (.iconst 1, 1) := by decide +kernel
theorem dX11_one_95 : decode cX11_one 95 = .ok (.invokevirtual 152, 3) := by decide +kernel
theorem dX11_one_98 : decode cX11_one 98 = .ok (.invokestatic 159, 3) := by decide +kernel
theorem dX11_one_101 : decode cX11_one 101 = .ok (.lreturn, 1) := by decide +kernel
theorem dX11_one_102 : decode cX11_one 102 = .ok (.aload_n 0, 1) := by decide +kernel
theorem dX11_one_103 : decode cX11_one 103 = .ok (.sipush 262, 3) := by decide +kernel
theorem dX11_one_106 : decode cX11_one 106 = .ok (.invokevirtual 142, 3) := by decide +kernel
theorem dX11_one_109 : decode cX11_one 109 = .ok (.ifCond .eq 27, 3) := by decide +kernel
theorem dX11_one_112 : decode cX11_one 112 = .ok (.aload_n 0, 1) := by decide +kernel
theorem dX11_one_113 : decode cX11_one 113 = .ok (.iconst 0, 1) := by decide +kernel
theorem dX11_one_114 : decode cX11_one 114 = .ok (.invokevirtual 152, 3) := by decide +kernel
theorem dX11_one_117 : decode cX11_one 117 = .ok (.istore_n 2, 1) := by decide +kernel
theorem dX11_one_118 : decode cX11_one 118 = .ok (.iload_n 2, 1) := by decide +kernel
theorem dX11_one_119 : decode cX11_one 119 = .ok (.iconst 0, 1) := by decide +kernel
theorem dX11_one_120 : decode cX11_one 120 = .ok (.bipush 60, 2) := by decide +kernel
theorem dX11_one_122 : decode cX11_one 122 = .ok (.invokestatic 89, 3) := by decide +kernel
theorem dX11_one_125 : decode cX11_one 125 = .ok (.ifCond .eq 9, 3) := by decide +kernel
theorem dX11_one_128 : decode cX11_one 128 = .ok (.lconst 1, 1) := by decide +kernel
theorem dX11_one_129 : decode cX11_one 129 = .ok (.iload_n 2, 1) := by decide +kernel
theorem dX11_one_130 : decode cX11_one 130 = .ok (.lshl, 1) := by decide +kernel
theorem dX11_one_131 : decode cX11_one 131 = .ok (.goto 4, 3) := by decide +kernel
theorem dX11_one_134 : decode cX11_one 134 = .ok (.lconst 0, 1) := by decide +kernel
theorem dX11_one_135 : decode cX11_one 135 = .ok (.lreturn, 1) := by decide +kernel
theorem dX11_one_136 : decode cX11_one 136 = .ok (.iload_n 1, 1) := by decide +kernel
theorem dX11_one_137 : decode cX11_one 137 = .ok (.iconst 4, 1) := by decide +kernel
theorem dX11_one_138 : decode cX11_one 138 = .ok (.if_icmp .ge 47, 3) := by decide +kernel
theorem dX11_one_141 : decode cX11_one 141 = .ok (.aload_n 0, 1) := by decide +kernel
theorem dX11_one_142 : decode cX11_one 142 = .ok (.bipush 40, 2) := by decide +kernel
theorem dX11_one_144 : decode cX11_one 144 = .ok (.invokevirtual 162, 3) := by decide +kernel
theorem dX11_one_147 : decode cX11_one 147 = .ok (.ifCond .eq 38, 3) := by decide +kernel
theorem dX11_one_150 : decode cX11_one 150 = .ok (.aload_n 0, 1) := by decide +kernel
theorem dX11_one_151 : decode cX11_one 151 = .ok (.iload_n 1, 1) := by decide +kernel
theorem dX11_one_152 : decode cX11_one 152 = .ok (.iconst 1, 1) := by decide +kernel
theorem dX11_one_153 : decode cX11_one 153 = .ok (.iadd, 1) := by decide +kernel
theorem dX11_one_154 : decode cX11_one 154 = .ok (.invokevirtual 165, 3) := by decide +kernel
theorem dX11_one_157 : decode cX11_one 157 = .ok (.lstore_n 2, 1) := by decide +kernel
theorem dX11_one_158 : decode cX11_one 158 = .ok (.aload_n 0, 1) := by decide +kernel
theorem dX11_one_159 : decode cX11_one 159 = .ok (.aload_n 0, 1) := by decide +kernel
theorem dX11_one_160 : decode cX11_one 160 = .ok (.getfield 131, 3) := by decide +kernel
theorem dX11_one_163 : decode cX11_one 163 = .ok (.ifCond .ne 12, 3) := by decide +kernel
theorem dX11_one_166 : decode cX11_one 166 = .ok (.aload_n 0, 1) := by decide +kernel
theorem dX11_one_167 : decode cX11_one 167 = .ok (.bipush 41, 2) := by decide +kernel
theorem dX11_one_169 : decode cX11_one 169 = .ok (.invokevirtual 162, 3) := by decide +kernel
theorem dX11_one_172 : decode cX11_one 172 = .ok (.ifCond .ne 7, 3) := by decide +kernel
theorem dX11_one_175 : decode cX11_one 175 = .ok (.iconst 1, 1) := by decide +kernel
theorem dX11_one_176 : decode cX11_one 176 = .ok (.goto 4, 3) := by decide +kernel
theorem dX11_one_179 : decode cX11_one 179 = .ok (.iconst 0, 1) := by decide +kernel
theorem dX11_one_180 : decode cX11_one 180 = .ok (.putfield 131, 3) := by decide +kernel
theorem dX11_one_183 : decode cX11_one 183 = .ok (.lload_n 2, 1) := by decide +kernel
theorem dX11_one_184 : decode cX11_one 184 = .ok (.lreturn, 1) := by decide +kernel
theorem dX11_one_185 : decode cX11_one 185 = .ok (.aload_n 0, 1) := by decide +kernel
theorem dX11_one_186 : decode cX11_one 186 = .ok (.iconst 1, 1) := by decide +kernel
theorem dX11_one_187 : decode cX11_one 187 = .ok (.putfield 131, 3) := by decide +kernel
theorem dX11_one_190 : decode cX11_one 190 = .ok (.lconst 0, 1) := by decide +kernel
theorem dX11_one_191 : decode cX11_one 191 = .ok (.lreturn, 1) := by decide +kernel
theorem dX11_every_0 : decode cX11_every 0 = .ok (.aload_n 0, 1) := by decide +kernel
theorem dX11_every_1 : decode cX11_every 1 = .ok (.iload_n 1, 1) := by decide +kernel
theorem dX11_every_2 : decode cX11_every 2 = .ok (.invokevirtual 145, 3) := by decide +kernel
theorem dX11_every_5 : decode cX11_every 5 = .ok (.lstore_n 2, 1) := by decide +kernel
theorem dX11_every_6 : decode cX11_every 6 = .ok (.aload_n 0, 1) := by decide +kernel
theorem dX11_every_7 : decode cX11_every 7 = .ok (.sipush 1111, 3) := by decide +kernel
theorem dX11_every_10 : decode cX11_every 10 = .ok (.invokevirtual 142, 3) := by decide +kernel
theorem dX11_every_13 : decode cX11_every 13 = .ok (.ifCond .eq 14, 3) := by decide +kernel
theorem dX11_every_16 : decode cX11_every 16 = .ok (.lload_n 2, 1) := by decide +kernel
theorem dX11_every_17 : decode cX11_every 17 = .ok (.aload_n 0, 1) := by decide +kernel
theorem dX11_every_18 : decode cX11_every 18 = .ok (.iload_n 1, 1) := by decide +kernel
theorem dX11_every_19 : decode cX11_every 19 = .ok (.invokevirtual 145, 3) := by decide +kernel
theorem dX11_every_22 : decode cX11_every 22 = .ok (.land, 1) := by decide +kernel
theorem dX11_every_23 : decode cX11_every 23 = .ok (.lstore_n 2, 1) := by decide +kernel
theorem dX11_every_24 : decode cX11_every 24 = .ok (.goto (-18), 3) := by decide +kernel
theorem dX11_every_27 : decode cX11_every 27 = .ok (.lload_n 2, 1) := by decide +kernel
theorem dX11_every_28 : decode cX11_every 28 = .ok (.lreturn, 1) := by decide +kernel
theorem dX11_some_0 : decode cX11_some 0 = .ok (.aload_n 0, 1) := by decide +kernel
theorem dX11_some_1 : decode cX11_some 1 = .ok (.iload_n 1, 1) := by decide +kernel
theorem dX11_some_2 : decode cX11_some 2 = .ok (.invokevirtual 168, 3) := by decide +kernel
theorem dX11_some_5 : decode cX11_some 5 = .ok (.lstore_n 2, 1) := by decide +kernel
theorem dX11_some_6 : decode cX11_some 6 = .ok (.aload_n 0, 1) := by decide +kernel
theorem dX11_some_7 : decode cX11_some 7 = .ok (.sipush 423, 3) := by decide +kernel
theorem dX11_some_10 : decode cX11_some 10 = .ok (.invokevirtual 142, 3) := by decide +kernel
theorem dX11_some_13 : decode cX11_some 13 = .ok (.ifCond .eq 14, 3) := by decide +kernel
theorem dX11_some_16 : decode cX11_some 16 = .ok (.lload_n 2, 1) := by decide +kernel
theorem dX11_some_17 : decode cX11_some 17 = .ok (.aload_n 0, 1) := by decide +kernel
theorem dX11_some_18 : decode cX11_some 18 = .ok (.iload_n 1, 1) := by decide +kernel
theorem dX11_some_19 : decode cX11_some 19 = .ok (.invokevirtual 168, 3) := by decide +kernel
theorem dX11_some_22 : decode cX11_some 22 = .ok (.lor, 1) := by decide +kernel
theorem dX11_some_23 : decode cX11_some 23 = .ok (.lstore_n 2, 1) := by decide +kernel
theorem dX11_some_24 : decode cX11_some 24 = .ok (.goto (-18), 3) := by decide +kernel
theorem dX11_some_27 : decode cX11_some 27 = .ok (.lload_n 2, 1) := by decide +kernel
theorem dX11_some_28 : decode cX11_some 28 = .ok (.lreturn, 1) := by decide +kernel
theorem dX11_rule_0 : decode cX11_rule 0 = .ok (.aload_n 0, 1) := by decide +kernel
theorem dX11_rule_1 : decode cX11_rule 1 = .ok (.iload_n 1, 1) := by decide +kernel
theorem dX11_rule_2 : decode cX11_rule 2 = .ok (.invokevirtual 105, 3) := by decide +kernel
theorem dX11_rule_5 : decode cX11_rule 5 = .ok (.ifCond .ne 5, 3) := by decide +kernel
theorem dX11_rule_8 : decode cX11_rule 8 = .ok (.iconst (-1), 1) := by decide +kernel
theorem dX11_rule_9 : decode cX11_rule 9 = .ok (.ireturn, 1) := by decide +kernel
theorem dX11_rule_10 : decode cX11_rule 10 = .ok (.aload_n 0, 1) := by decide +kernel
theorem dX11_rule_11 : decode cX11_rule 11 = .ok (.iconst 0, 1) := by decide +kernel
theorem dX11_rule_12 : decode cX11_rule 12 = .ok (.putfield 122, 3) := by decide +kernel
theorem dX11_rule_15 : decode cX11_rule 15 = .ok (.aload_n 0, 1) := by decide +kernel
theorem dX11_rule_16 : decode cX11_rule 16 = .ok (.iconst 0, 1) := by decide +kernel
theorem dX11_rule_17 : decode cX11_rule 17 = .ok (.putfield 131, 3) := by decide +kernel
theorem dX11_rule_20 : decode cX11_rule 20 = .ok (.aload_n 0, 1) := by decide +kernel
theorem dX11_rule_21 : decode cX11_rule 21 = .ok (.invokevirtual 139, 3) := by decide +kernel
theorem dX11_rule_24 : decode cX11_rule 24 = .ok (.aload_n 0, 1) := by decide +kernel
theorem dX11_rule_25 : decode cX11_rule 25 = .ok (.iconst 0, 1) := by decide +kernel
theorem dX11_rule_26 : decode cX11_rule 26 = .ok (.invokevirtual 165, 3) := by decide +kernel
theorem dX11_rule_29 : decode cX11_rule 29 = .ok (.lstore_n 2, 1) := by decide +kernel
theorem dX11_rule_30 : decode cX11_rule 30 = .ok (.aload_n 0, 1) := by decide +kernel
theorem dX11_rule_31 : decode cX11_rule 31 = .ok (.aload_n 0, 1) := by decide +kernel
theorem dX11_rule_32 : decode cX11_rule 32 = .ok (.getfield 131, 3) := by decide +kernel
theorem dX11_rule_35 : decode cX11_rule 35 = .ok (.ifCond .ne 14, 3) := by decide +kernel
theorem dX11_rule_38 : decode cX11_rule 38 = .ok (.aload_n 0, 1) := by decide +kernel
theorem dX11_rule_39 : decode cX11_rule 39 = .ok (.getfield 125, 3) := by decide +kernel
theorem dX11_rule_42 : decode cX11_rule 42 = .ok (.aload_n 0, 1) := by decide +kernel
theorem dX11_rule_43 : decode cX11_rule 43 = .ok (.getfield 117, 3) := by decide +kernel
theorem dX11_rule_46 : decode cX11_rule 46 = .ok (.if_icmp .ge 7, 3) := by decide +kernel
theorem dX11_rule_49 : decode cX11_rule 49 = .ok (.iconst 1, 1) := by decide +kernel
theorem dX11_rule_50 : decode cX11_rule 50 = .ok (.goto 4, 3) := by decide +kernel
theorem dX11_rule_53 : decode cX11_rule 53 = .ok (.iconst 0, 1) := by decide +kernel
theorem dX11_rule_54 : decode cX11_rule 54 = .ok (.putfield 131, 3) := by decide +kernel
theorem dX11_rule_57 : decode cX11_rule 57 = .ok (.aload_n 0, 1) := by decide +kernel
theorem dX11_rule_58 : decode cX11_rule 58 = .ok (.iconst 0, 1) := by decide +kernel
theorem dX11_rule_59 : decode cX11_rule 59 = .ok (.putfield 117, 3) := by decide +kernel
theorem dX11_rule_62 : decode cX11_rule 62 = .ok (.aload_n 0, 1) := by decide +kernel
theorem dX11_rule_63 : decode cX11_rule 63 = .ok (.getfield 131, 3) := by decide +kernel
theorem dX11_rule_66 : decode cX11_rule 66 = .ok (.ifCond .eq 11, 3) := by decide +kernel
theorem dX11_rule_69 : decode cX11_rule 69 = .ok (.bipush (-100), 2) := by decide +kernel
theorem dX11_rule_71 : decode cX11_rule 71 = .ok (.aload_n 0, 1) := by decide +kernel
theorem dX11_rule_72 : decode cX11_rule 72 = .ok (.getfield 125, 3) := by decide +kernel
theorem dX11_rule_75 : decode cX11_rule 75 = .ok (.isub, 1) := by decide +kernel
theorem dX11_rule_76 : decode cX11_rule 76 = .ok (.ireturn, 1) := by decide +kernel
theorem dX11_rule_77 : decode cX11_rule 77 = .ok (.aload_n 0, 1) := by decide +kernel
theorem dX11_rule_78 : decode cX11_rule 78 = .ok (.iconst 3, 1) := by decide +kernel
theorem dX11_rule_79 : decode cX11_rule 79 = .ok (.iload_n 1, 1) := by decide +kernel
theorem dX11_rule_80 : decode cX11_rule 80 = .ok (.invokevirtual 96, 3) := by decide +kernel
theorem dX11_rule_83 : decode cX11_rule 83 = .ok (.aload_n 0, 1) := by decide +kernel
theorem dX11_rule_84 : decode cX11_rule 84 = .ok (.getfield 25, 3) := by decide +kernel
theorem dX11_rule_87 : decode cX11_rule 87 = .ok (.iload_n 1, 1) := by decide +kernel
theorem dX11_rule_88 : decode cX11_rule 88 = .ok (.lload_n 2, 1) := by decide +kernel
theorem dX11_rule_89 : decode cX11_rule 89 = .ok (.lastore, 1) := by decide +kernel
theorem dX11_rule_90 : decode cX11_rule 90 = .ok (.lload_n 2, 1) := by decide +kernel
theorem dX11_rule_91 : decode cX11_rule 91 = .ok (.invokestatic 113, 3) := by decide +kernel
theorem dX11_rule_94 : decode cX11_rule 94 = .ok (.ireturn, 1) := by decide +kernel
theorem dX11_lets_0 : decode cX11_lets 0 = .ok (.aload_n 0, 1) := by decide +kernel
theorem dX11_lets_1 : decode cX11_lets 1 = .ok (.iload_n 1, 1) := by decide +kernel
theorem dX11_lets_2 : decode cX11_lets 2 = .ok (.invokevirtual 105, 3) := by decide +kernel
theorem dX11_lets_5 : decode cX11_lets 5 = .ok (.ifCond .eq 27, 3) := by decide +kernel
theorem dX11_lets_8 : decode cX11_lets 8 = .ok (.iload_n 2, 1) := by decide +kernel
theorem dX11_lets_9 : decode cX11_lets 9 = .ok (.iconst 0, 1) := by decide +kernel
theorem dX11_lets_10 : decode cX11_lets 10 = .ok (.bipush 60, 2) := by decide +kernel
theorem dX11_lets_12 : decode cX11_lets 12 = .ok (.invokestatic 89, 3) := by decide +kernel
theorem dX11_lets_15 : decode cX11_lets 15 = .ok (.ifCond .eq 17, 3) := by decide +kernel
theorem dX11_lets_18 : decode cX11_lets 18 = .ok (.aload_n 0, 1) := by decide +kernel
theorem dX11_lets_19 : decode cX11_lets 19 = .ok (.getfield 25, 3) := by decide +kernel
theorem dX11_lets_22 : decode cX11_lets 22 = .ok (.iload_n 1, 1) := by decide +kernel
theorem dX11_lets_23 : decode cX11_lets 23 = .ok (.laload, 1) := by decide +kernel
theorem dX11_lets_24 : decode cX11_lets 24 = .ok (.iload_n 2, 1) := by decide +kernel
theorem dX11_lets_25 : decode cX11_lets 25 = .ok (.lshr, 1) := by decide +kernel
theorem dX11_lets_26 : decode cX11_lets 26 = .ok (.lconst 1, 1) := by decide +kernel
theorem dX11_lets_27 : decode cX11_lets 27 = .ok (.land, 1) := by decide +kernel
theorem dX11_lets_28 : decode cX11_lets 28 = .ok (.l2i, 1) := by decide +kernel
theorem dX11_lets_29 : decode cX11_lets 29 = .ok (.goto 4, 3) := by decide +kernel
theorem dX11_lets_32 : decode cX11_lets 32 = .ok (.iconst (-1), 1) := by decide +kernel
theorem dX11_lets_33 : decode cX11_lets 33 = .ok (.ireturn, 1) := by decide +kernel
theorem dX11_place_0 : decode cX11_place 0 = .ok (.iload_n 0, 1) := by decide +kernel
theorem dX11_place_1 : decode cX11_place 1 = .ok (.bipush 61, 2) := by decide +kernel
theorem dX11_place_3 : decode cX11_place 3 = .ok (.imul, 1) := by decide +kernel
theorem dX11_place_4 : decode cX11_place 4 = .ok (.iload_n 2, 1) := by decide +kernel
theorem dX11_place_5 : decode cX11_place 5 = .ok (.iadd, 1) := by decide +kernel
theorem dX11_place_6 : decode cX11_place 6 = .ok (.bipush 61, 2) := by decide +kernel
theorem dX11_place_8 : decode cX11_place 8 = .ok (.imul, 1) := by decide +kernel
theorem dX11_place_9 : decode cX11_place 9 = .ok (.iload_n 1, 1) := by decide +kernel
theorem dX11_place_10 : decode cX11_place 10 = .ok (.iadd, 1) := by decide +kernel
theorem dX11_place_11 : decode cX11_place 11 = .ok (.ireturn, 1) := by decide +kernel
theorem dX11_isPoint_0 : decode cX11_isPoint 0 = .ok (.iload_n 0, 1) := by decide +kernel
theorem dX11_isPoint_1 : decode cX11_isPoint 1 = .ok (.iconst 0, 1) := by decide +kernel
theorem dX11_isPoint_2 : decode cX11_isPoint 2 = .ok (.iload_n 2, 1) := by decide +kernel
theorem dX11_isPoint_3 : decode cX11_isPoint 3 = .ok (.invokestatic 89, 3) := by decide +kernel
theorem dX11_isPoint_6 : decode cX11_isPoint 6 = .ok (.ifCond .eq 16, 3) := by decide +kernel
theorem dX11_isPoint_9 : decode cX11_isPoint 9 = .ok (.iload_n 1, 1) := by decide +kernel
theorem dX11_isPoint_10 : decode cX11_isPoint 10 = .ok (.iconst 0, 1) := by decide +kernel
theorem dX11_isPoint_11 : decode cX11_isPoint 11 = .ok (.iload_n 2, 1) := by decide +kernel
theorem dX11_isPoint_12 : decode cX11_isPoint 12 = .ok (.invokestatic 89, 3) := by decide +kernel
theorem dX11_isPoint_15 : decode cX11_isPoint 15 = .ok (.ifCond .eq 7, 3) := by decide +kernel
theorem dX11_isPoint_18 : decode cX11_isPoint 18 = .ok (.iconst 1, 1) := by decide +kernel
theorem dX11_isPoint_19 : decode cX11_isPoint 19 = .ok (.goto 4, 3) := by decide +kernel
theorem dX11_isPoint_22 : decode cX11_isPoint 22 = .ok (.iconst 0, 1) := by decide +kernel
theorem dX11_isPoint_23 : decode cX11_isPoint 23 = .ok (.ireturn, 1) := by decide +kernel
theorem dX11_count_0 : decode cX11_count 0 = .ok (.iconst 0, 1) := by decide +kernel
theorem dX11_count_1 : decode cX11_count 1 = .ok (.istore_n 3, 1) := by decide +kernel
theorem dX11_count_2 : decode cX11_count 2 = .ok (.iload_n 3, 1) := by decide +kernel
theorem dX11_count_3 : decode cX11_count 3 = .ok (.iload_n 2, 1) := by decide +kernel
theorem dX11_count_4 : decode cX11_count 4 = .ok (.if_icmp .gt 53, 3) := by decide +kernel
theorem dX11_count_7 : decode cX11_count 7 = .ok (.iconst 0, 1) := by decide +kernel
theorem dX11_count_8 : decode cX11_count 8 = .ok (.istore 4, 2) := by decide +kernel
theorem dX11_count_10 : decode cX11_count 10 = .ok (.iload 4, 2) := by decide +kernel
theorem dX11_count_12 : decode cX11_count 12 = .ok (.iload_n 1, 1) := by decide +kernel
theorem dX11_count_13 : decode cX11_count 13 = .ok (.if_icmp .gt 38, 3) := by decide +kernel
theorem dX11_count_16 : decode cX11_count 16 = .ok (.aload_n 0, 1) := by decide +kernel
theorem dX11_count_17 : decode cX11_count 17 = .ok (.getfield 62, 3) := by decide +kernel
theorem dX11_count_20 : decode cX11_count 20 = .ok (.aload_n 0, 1) := by decide +kernel
theorem dX11_count_21 : decode cX11_count 21 = .ok (.getfield 86, 3) := by decide +kernel
theorem dX11_count_24 : decode cX11_count 24 = .ok (.iload 4, 2) := by decide +kernel
theorem dX11_count_26 : decode cX11_count 26 = .ok (.iload_n 3, 1) := by decide +kernel
theorem dX11_count_27 : decode cX11_count 27 = .ok (.invokestatic 171, 3) := by decide +kernel
theorem dX11_count_30 : decode cX11_count 30 = .ok (.iload 4, 2) := by decide +kernel
theorem dX11_count_32 : decode cX11_count 32 = .ok (.ifCond .ne 11, 3) := by decide +kernel
theorem dX11_count_35 : decode cX11_count 35 = .ok (.iload_n 3, 1) := by decide +kernel
theorem dX11_count_36 : decode cX11_count 36 = .ok (.ifCond .ne 7, 3) := by decide +kernel
theorem dX11_count_39 : decode cX11_count 39 = .ok (.lconst 1, 1) := by decide +kernel
theorem dX11_count_40 : decode cX11_count 40 = .ok (.goto 4, 3) := by decide +kernel
theorem dX11_count_43 : decode cX11_count 43 = .ok (.lconst 0, 1) := by decide +kernel
theorem dX11_count_44 : decode cX11_count 44 = .ok (.lastore, 1) := by decide +kernel
theorem dX11_count_45 : decode cX11_count 45 = .ok (.iinc 4 1, 3) := by decide +kernel
theorem dX11_count_48 : decode cX11_count 48 = .ok (.goto (-38), 3) := by decide +kernel
theorem dX11_count_51 : decode cX11_count 51 = .ok (.iinc 3 1, 3) := by decide +kernel
theorem dX11_count_54 : decode cX11_count 54 = .ok (.goto (-52), 3) := by decide +kernel
theorem dX11_count_57 : decode cX11_count 57 = .ok (.aload_n 0, 1) := by decide +kernel
theorem dX11_count_58 : decode cX11_count 58 = .ok (.getfield 86, 3) := by decide +kernel
theorem dX11_count_61 : decode cX11_count 61 = .ok (.iconst 1, 1) := by decide +kernel
theorem dX11_count_62 : decode cX11_count 62 = .ok (.isub, 1) := by decide +kernel
theorem dX11_count_63 : decode cX11_count 63 = .ok (.istore_n 3, 1) := by decide +kernel
theorem dX11_count_64 : decode cX11_count 64 = .ok (.iload_n 3, 1) := by decide +kernel
theorem dX11_count_65 : decode cX11_count 65 = .ok (.ifCond .lt 146, 3) := by decide +kernel
theorem dX11_count_68 : decode cX11_count 68 = .ok (.iconst 0, 1) := by decide +kernel
theorem dX11_count_69 : decode cX11_count 69 = .ok (.istore 4, 2) := by decide +kernel
theorem dX11_count_71 : decode cX11_count 71 = .ok (.iload 4, 2) := by decide +kernel
theorem dX11_count_73 : decode cX11_count 73 = .ok (.iload_n 2, 1) := by decide +kernel
theorem dX11_count_74 : decode cX11_count 74 = .ok (.if_icmp .gt 131, 3) := by decide +kernel

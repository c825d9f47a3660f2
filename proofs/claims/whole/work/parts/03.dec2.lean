theorem dX7_read_78 : decode cX7_read 78 = .ok (.istore 8, 2) := by decide +kernel
theorem dX7_read_80 : decode cX7_read 80 = .ok (.iload 8, 2) := by decide +kernel
theorem dX7_read_82 : decode cX7_read 82 = .ok (.iload 4, 2) := by decide +kernel
theorem dX7_read_84 : decode cX7_read 84 = .ok (.if_icmp .ge 85, 3) := by decide +kernel
theorem dX7_read_87 : decode cX7_read 87 = .ok (.iload_n 3, 1) := by decide +kernel
theorem dX7_read_88 : decode cX7_read 88 = .ok (.iconst 3, 1) := by decide +kernel
theorem dX7_read_89 : decode cX7_read 89 = .ok (.iload 8, 2) := by decide +kernel
theorem dX7_read_91 : decode cX7_read 91 = .ok (.imul, 1) := by decide +kernel
theorem dX7_read_92 : decode cX7_read 92 = .ok (.iadd, 1) := by decide +kernel
theorem dX7_read_93 : decode cX7_read 93 = .ok (.istore 9, 2) := by decide +kernel
theorem dX7_read_95 : decode cX7_read 95 = .ok (.aload 5, 2) := by decide +kernel
theorem dX7_read_97 : decode cX7_read 97 = .ok (.iload 9, 2) := by decide +kernel
theorem dX7_read_99 : decode cX7_read 99 = .ok (.invokevirtual 274, 3) := by decide +kernel
theorem dX7_read_102 : decode cX7_read 102 = .ok (.ifCond .ne 11, 3) := by decide +kernel
theorem dX7_read_105 : decode cX7_read 105 = .ok (.aload_n 0, 1) := by decide +kernel
theorem dX7_read_106 : decode cX7_read 106 = .ok (.iconst 2, 1) := by decide +kernel
theorem dX7_read_107 : decode cX7_read 107 = .ok (.putfield 271, 3) := by decide +kernel
theorem dX7_read_110 : decode cX7_read 110 = .ok (.iload 8, 2) := by decide +kernel
theorem dX7_read_112 : decode cX7_read 112 = .ok (.ireturn, 1) := by decide +kernel
theorem dX7_read_113 : decode cX7_read 113 = .ok (.aload_n 0, 1) := by decide +kernel
theorem dX7_read_114 : decode cX7_read 114 = .ok (.aload 5, 2) := by decide +kernel
theorem dX7_read_116 : decode cX7_read 116 = .ok (.getfield 277, 3) := by decide +kernel
theorem dX7_read_119 : decode cX7_read 119 = .ok (.iload 9, 2) := by decide +kernel
theorem dX7_read_121 : decode cX7_read 121 = .ok (.iaload, 1) := by decide +kernel
theorem dX7_read_122 : decode cX7_read 122 = .ok (.aload 5, 2) := by decide +kernel
theorem dX7_read_124 : decode cX7_read 124 = .ok (.getfield 277, 3) := by decide +kernel
theorem dX7_read_127 : decode cX7_read 127 = .ok (.iload 9, 2) := by decide +kernel
theorem dX7_read_129 : decode cX7_read 129 = .ok (.iconst 1, 1) := by decide +kernel
theorem dX7_read_130 : decode cX7_read 130 = .ok (.iadd, 1) := by decide +kernel
theorem dX7_read_131 : decode cX7_read 131 = .ok (.iaload, 1) := by decide +kernel
theorem dX7_read_132 : decode cX7_read 132 = .ok (.aload 5, 2) := by decide +kernel
theorem dX7_read_134 : decode cX7_read 134 = .ok (.getfield 277, 3) := by decide +kernel
theorem dX7_read_137 : decode cX7_read 137 = .ok (.iload 9, 2) := by decide +kernel
theorem dX7_read_139 : decode cX7_read 139 = .ok (.iconst 2, 1) := by decide +kernel
theorem dX7_read_140 : decode cX7_read 140 = .ok (.iadd, 1) := by decide +kernel
theorem dX7_read_141 : decode cX7_read 141 = .ok (.iaload, 1) := by decide +kernel
theorem dX7_read_142 : decode cX7_read 142 = .ok (.invokevirtual 280, 3) := by decide +kernel
theorem dX7_read_145 : decode cX7_read 145 = .ok (.ifCond .ge 18, 3) := by decide +kernel
theorem dX7_read_148 : decode cX7_read 148 = .ok (.aload_n 0, 1) := by decide +kernel
theorem dX7_read_149 : decode cX7_read 149 = .ok (.getfield 26, 3) := by decide +kernel
theorem dX7_read_152 : decode cX7_read 152 = .ok (.iload 6, 2) := by decide +kernel
theorem dX7_read_154 : decode cX7_read 154 = .ok (.putfield 144, 3) := by decide +kernel
theorem dX7_read_157 : decode cX7_read 157 = .ok (.bipush (-20), 2) := by decide +kernel
theorem dX7_read_159 : decode cX7_read 159 = .ok (.iload 8, 2) := by decide +kernel
theorem dX7_read_161 : decode cX7_read 161 = .ok (.isub, 1) := by decide +kernel
theorem dX7_read_162 : decode cX7_read 162 = .ok (.ireturn, 1) := by decide +kernel
theorem dX7_read_163 : decode cX7_read 163 = .ok (.iinc 8 1, 3) := by decide +kernel
theorem dX7_read_166 : decode cX7_read 166 = .ok (.goto (-86), 3) := by decide +kernel
theorem dX7_read_169 : decode cX7_read 169 = .ok (.aload_n 0, 1) := by decide +kernel
theorem dX7_read_170 : decode cX7_read 170 = .ok (.iconst 0, 1) := by decide +kernel
theorem dX7_read_171 : decode cX7_read 171 = .ok (.putfield 271, 3) := by decide +kernel
theorem dX7_read_174 : decode cX7_read 174 = .ok (.iload 4, 2) := by decide +kernel
theorem dX7_read_176 : decode cX7_read 176 = .ok (.ireturn, 1) := by decide +kernel
theorem dX7_torn_0 : decode cX7_torn 0 = .ok (.aload_n 0, 1) := by decide +kernel
theorem dX7_torn_1 : decode cX7_torn 1 = .ok (.getfield 271, 3) := by decide +kernel
theorem dX7_torn_4 : decode cX7_torn 4 = .ok (.ireturn, 1) := by decide +kernel
theorem dX7_count_0 : decode cX7_count 0 = .ok (.iload_n 1, 1) := by decide +kernel
theorem dX7_count_1 : decode cX7_count 1 = .ok (.tableswitch 158 0 7 #[47, 55, 63, 71, 79, 87, 123, 131], 47) := by decide +kernel
theorem dX7_count_48 : decode cX7_count 48 = .ok (.aload_n 0, 1) := by decide +kernel
theorem dX7_count_49 : decode cX7_count 49 = .ok (.getfield 59, 3) := by decide +kernel
theorem dX7_count_52 : decode cX7_count 52 = .ok (.getfield 191, 3) := by decide +kernel
theorem dX7_count_55 : decode cX7_count 55 = .ok (.ireturn, 1) := by decide +kernel
theorem dX7_count_56 : decode cX7_count 56 = .ok (.aload_n 0, 1) := by decide +kernel
theorem dX7_count_57 : decode cX7_count 57 = .ok (.getfield 59, 3) := by decide +kernel
theorem dX7_count_60 : decode cX7_count 60 = .ok (.getfield 111, 3) := by decide +kernel
theorem dX7_count_63 : decode cX7_count 63 = .ok (.ireturn, 1) := by decide +kernel
theorem dX7_count_64 : decode cX7_count 64 = .ok (.aload_n 0, 1) := by decide +kernel
theorem dX7_count_65 : decode cX7_count 65 = .ok (.getfield 59, 3) := by decide +kernel
theorem dX7_count_68 : decode cX7_count 68 = .ok (.getfield 117, 3) := by decide +kernel
theorem dX7_count_71 : decode cX7_count 71 = .ok (.ireturn, 1) := by decide +kernel
theorem dX7_count_72 : decode cX7_count 72 = .ok (.aload_n 0, 1) := by decide +kernel
theorem dX7_count_73 : decode cX7_count 73 = .ok (.getfield 26, 3) := by decide +kernel
theorem dX7_count_76 : decode cX7_count 76 = .ok (.getfield 144, 3) := by decide +kernel
theorem dX7_count_79 : decode cX7_count 79 = .ok (.ireturn, 1) := by decide +kernel
theorem dX7_count_80 : decode cX7_count 80 = .ok (.aload_n 0, 1) := by decide +kernel
theorem dX7_count_81 : decode cX7_count 81 = .ok (.getfield 26, 3) := by decide +kernel
theorem dX7_count_84 : decode cX7_count 84 = .ok (.getfield 235, 3) := by decide +kernel
theorem dX7_count_87 : decode cX7_count 87 = .ok (.ireturn, 1) := by decide +kernel
theorem dX7_count_88 : decode cX7_count 88 = .ok (.aload_n 0, 1) := by decide +kernel
theorem dX7_count_89 : decode cX7_count 89 = .ok (.getfield 39, 3) := by decide +kernel
theorem dX7_count_92 : decode cX7_count 92 = .ok (.iconst 0, 1) := by decide +kernel
theorem dX7_count_93 : decode cX7_count 93 = .ok (.aaload, 1) := by decide +kernel
theorem dX7_count_94 : decode cX7_count 94 = .ok (.getfield 90, 3) := by decide +kernel
theorem dX7_count_97 : decode cX7_count 97 = .ok (.ifCond .eq 7, 3) := by decide +kernel
theorem dX7_count_100 : decode cX7_count 100 = .ok (.iconst 1, 1) := by decide +kernel
theorem dX7_count_101 : decode cX7_count 101 = .ok (.goto 4, 3) := by decide +kernel
theorem dX7_count_104 : decode cX7_count 104 = .ok (.iconst 0, 1) := by decide +kernel
theorem dX7_count_105 : decode cX7_count 105 = .ok (.aload_n 0, 1) := by decide +kernel
theorem dX7_count_106 : decode cX7_count 106 = .ok (.getfield 39, 3) := by decide +kernel
theorem dX7_count_109 : decode cX7_count 109 = .ok (.iconst 1, 1) := by decide +kernel
theorem dX7_count_110 : decode cX7_count 110 = .ok (.aaload, 1) := by decide +kernel
theorem dX7_count_111 : decode cX7_count 111 = .ok (.getfield 90, 3) := by decide +kernel
theorem dX7_count_114 : decode cX7_count 114 = .ok (.ifCond .eq 7, 3) := by decide +kernel
theorem dX7_count_117 : decode cX7_count 117 = .ok (.iconst 1, 1) := by decide +kernel
theorem dX7_count_118 : decode cX7_count 118 = .ok (.goto 4, 3) := by decide +kernel
theorem dX7_count_121 : decode cX7_count 121 = .ok (.iconst 0, 1) := by decide +kernel
theorem dX7_count_122 : decode cX7_count 122 = .ok (.iadd, 1) := by decide +kernel
theorem dX7_count_123 : decode cX7_count 123 = .ok (.ireturn, 1) := by decide +kernel
theorem dX7_count_124 : decode cX7_count 124 = .ok (.aload_n 0, 1) := by decide +kernel
theorem dX7_count_125 : decode cX7_count 125 = .ok (.getfield 10, 3) := by decide +kernel
theorem dX7_count_128 : decode cX7_count 128 = .ok (.getfield 72, 3) := by decide +kernel
theorem dX7_count_131 : decode cX7_count 131 = .ok (.ireturn, 1) := by decide +kernel
theorem dX7_count_132 : decode cX7_count 132 = .ok (.aload_n 0, 1) := by decide +kernel
theorem dX7_count_133 : decode cX7_count 133 = .ok (.getfield 45, 3) := by decide +kernel
theorem dX7_count_136 : decode cX7_count 136 = .ok (.iconst 0, 1) := by decide +kernel
theorem dX7_count_137 : decode cX7_count 137 = .ok (.aaload, 1) := by decide +kernel
theorem dX7_count_138 : decode cX7_count 138 = .ok (.invokevirtual 260, 3) := by decide +kernel
theorem dX7_count_141 : decode cX7_count 141 = .ok (.ifCond .eq 8, 3) := by decide +kernel
theorem dX7_count_144 : decode cX7_count 144 = .ok (.bipush (-4), 2) := by decide +kernel
theorem dX7_count_146 : decode cX7_count 146 = .ok (.goto 12, 3) := by decide +kernel
theorem dX7_count_149 : decode cX7_count 149 = .ok (.aload_n 0, 1) := by decide +kernel
theorem dX7_count_150 : decode cX7_count 150 = .ok (.getfield 45, 3) := by decide +kernel
theorem dX7_count_153 : decode cX7_count 153 = .ok (.iconst 0, 1) := by decide +kernel
theorem dX7_count_154 : decode cX7_count 154 = .ok (.aaload, 1) := by decide +kernel
theorem dX7_count_155 : decode cX7_count 155 = .ok (.getfield 263, 3) := by decide +kernel
theorem dX7_count_158 : decode cX7_count 158 = .ok (.ireturn, 1) := by decide +kernel
theorem dX7_count_159 : decode cX7_count 159 = .ok (.iconst (-1), 1) := by decide +kernel
theorem dX7_count_160 : decode cX7_count 160 = .ok (.ireturn, 1) := by decide +kernel
theorem dX7_isWithin_0 : decode cX7_isWithin 0 = .ok (.iload_n 0, 1) := by decide +kernel
theorem dX7_isWithin_1 : decode cX7_isWithin 1 = .ok (.ifCond .lt 12, 3) := by decide +kernel
theorem dX7_isWithin_4 : decode cX7_isWithin 4 = .ok (.iload_n 0, 1) := by decide +kernel
theorem dX7_isWithin_5 : decode cX7_isWithin 5 = .ok (.iload_n 1, 1) := by decide +kernel
theorem dX7_isWithin_6 : decode cX7_isWithin 6 = .ok (.if_icmp .ge 7, 3) := by decide +kernel
theorem dX7_isWithin_9 : decode cX7_isWithin 9 = .ok (.iconst 1, 1) := by decide +kernel
theorem dX7_isWithin_10 : decode cX7_isWithin 10 = .ok (.goto 4, 3) := by decide +kernel
theorem dX7_isWithin_13 : decode cX7_isWithin 13 = .ok (.iconst 0, 1) := by decide +kernel
theorem dX7_isWithin_14 : decode cX7_isWithin 14 = .ok (.ireturn, 1) := by decide +kernel
theorem dX7_comes_0 : decode cX7_comes 0 = .ok (.aload_n 0, 1) := by decide +kernel
theorem dX7_comes_1 : decode cX7_comes 1 = .ok (.getfield 26, 3) := by decide +kernel
theorem dX7_comes_4 : decode cX7_comes 4 = .ok (.getfield 150, 3) := by decide +kernel
theorem dX7_comes_7 : decode cX7_comes 7 = .ok (.iload_n 1, 1) := by decide +kernel
theorem dX7_comes_8 : decode cX7_comes 8 = .ok (.iaload, 1) := by decide +kernel
theorem dX7_comes_9 : decode cX7_comes 9 = .ok (.aload_n 0, 1) := by decide +kernel
theorem dX7_comes_10 : decode cX7_comes 10 = .ok (.getfield 59, 3) := by decide +kernel
theorem dX7_comes_13 : decode cX7_comes 13 = .ok (.aload_n 0, 1) := by decide +kernel
theorem dX7_comes_14 : decode cX7_comes 14 = .ok (.getfield 59, 3) := by decide +kernel
theorem dX7_comes_17 : decode cX7_comes 17 = .ok (.getfield 105, 3) := by decide +kernel
theorem dX7_comes_20 : decode cX7_comes 20 = .ok (.aload_n 0, 1) := by decide +kernel
theorem dX7_comes_21 : decode cX7_comes 21 = .ok (.getfield 26, 3) := by decide +kernel
theorem dX7_comes_24 : decode cX7_comes 24 = .ok (.getfield 147, 3) := by decide +kernel
theorem dX7_comes_27 : decode cX7_comes 27 = .ok (.iload_n 1, 1) := by decide +kernel
theorem dX7_comes_28 : decode cX7_comes 28 = .ok (.iaload, 1) := by decide +kernel
theorem dX7_comes_29 : decode cX7_comes 29 = .ok (.iaload, 1) := by decide +kernel
theorem dX7_comes_30 : decode cX7_comes 30 = .ok (.iload_n 2, 1) := by decide +kernel
theorem dX7_comes_31 : decode cX7_comes 31 = .ok (.invokevirtual 133, 3) := by decide +kernel
theorem dX7_comes_34 : decode cX7_comes 34 = .ok (.iadd, 1) := by decide +kernel
theorem dX7_comes_35 : decode cX7_comes 35 = .ok (.ireturn, 1) := by decide +kernel
theorem dX7_comesBy_0 : decode cX7_comesBy 0 = .ok (.iload_n 1, 1) := by decide +kernel
theorem dX7_comesBy_1 : decode cX7_comesBy 1 = .ok (.ifCond .ne 10, 3) := by decide +kernel
theorem dX7_comesBy_4 : decode cX7_comesBy 4 = .ok (.aload_n 0, 1) := by decide +kernel
theorem dX7_comesBy_5 : decode cX7_comesBy 5 = .ok (.iload_n 2, 1) := by decide +kernel
theorem dX7_comesBy_6 : decode cX7_comesBy 6 = .ok (.iload_n 3, 1) := by decide +kernel
theorem dX7_comesBy_7 : decode cX7_comesBy 7 = .ok (.invokevirtual 156, 3) := by decide +kernel
theorem dX7_comesBy_10 : decode cX7_comesBy 10 = .ok (.ireturn, 1) := by decide +kernel
theorem dX7_comesBy_11 : decode cX7_comesBy 11 = .ok (.aload_n 0, 1) := by decide +kernel
theorem dX7_comesBy_12 : decode cX7_comesBy 12 = .ok (.getfield 59, 3) := by decide +kernel
theorem dX7_comesBy_15 : decode cX7_comesBy 15 = .ok (.getfield 114, 3) := by decide +kernel
theorem dX7_comesBy_18 : decode cX7_comesBy 18 = .ok (.iload_n 1, 1) := by decide +kernel
theorem dX7_comesBy_19 : decode cX7_comesBy 19 = .ok (.iconst 1, 1) := by decide +kernel
theorem dX7_comesBy_20 : decode cX7_comesBy 20 = .ok (.isub, 1) := by decide +kernel
theorem dX7_comesBy_21 : decode cX7_comesBy 21 = .ok (.iaload, 1) := by decide +kernel
theorem dX7_comesBy_22 : decode cX7_comesBy 22 = .ok (.istore 4, 2) := by decide +kernel
theorem dX7_comesBy_24 : decode cX7_comesBy 24 = .ok (.aload_n 0, 1) := by decide +kernel
theorem dX7_comesBy_25 : decode cX7_comesBy 25 = .ok (.iload_n 2, 1) := by decide +kernel
theorem dX7_comesBy_26 : decode cX7_comesBy 26 = .ok (.iload 4, 2) := by decide +kernel
theorem dX7_comesBy_28 : decode cX7_comesBy 28 = .ok (.invokevirtual 156, 3) := by decide +kernel
theorem dX7_comesBy_31 : decode cX7_comesBy 31 = .ok (.aload_n 0, 1) := by decide +kernel
theorem dX7_comesBy_32 : decode cX7_comesBy 32 = .ok (.getfield 59, 3) := by decide +kernel
theorem dX7_comesBy_35 : decode cX7_comesBy 35 = .ok (.iload 4, 2) := by decide +kernel
theorem dX7_comesBy_37 : decode cX7_comesBy 37 = .ok (.iload_n 3, 1) := by decide +kernel
theorem dX7_comesBy_38 : decode cX7_comesBy 38 = .ok (.invokevirtual 133, 3) := by decide +kernel
theorem dX7_comesBy_41 : decode cX7_comesBy 41 = .ok (.iadd, 1) := by decide +kernel
theorem dX7_comesBy_42 : decode cX7_comesBy 42 = .ok (.ireturn, 1) := by decide +kernel
theorem dX7_edge_0 : decode cX7_edge 0 = .ok (.aload_n 0, 1) := by decide +kernel
theorem dX7_edge_1 : decode cX7_edge 1 = .ok (.iconst 0, 1) := by decide +kernel
theorem dX7_edge_2 : decode cX7_edge 2 = .ok (.iload_n 1, 1) := by decide +kernel
theorem dX7_edge_3 : decode cX7_edge 3 = .ok (.invokevirtual 156, 3) := by decide +kernel
theorem dX7_edge_6 : decode cX7_edge 6 = .ok (.istore_n 3, 1) := by decide +kernel
theorem dX7_edge_7 : decode cX7_edge 7 = .ok (.iconst 0, 1) := by decide +kernel
theorem dX7_edge_8 : decode cX7_edge 8 = .ok (.istore 4, 2) := by decide +kernel
theorem dX7_edge_10 : decode cX7_edge 10 = .ok (.iload 4, 2) := by decide +kernel
theorem dX7_edge_12 : decode cX7_edge 12 = .ok (.aload_n 0, 1) := by decide +kernel
theorem dX7_edge_13 : decode cX7_edge 13 = .ok (.getfield 26, 3) := by decide +kernel
theorem dX7_edge_16 : decode cX7_edge 16 = .ok (.getfield 144, 3) := by decide +kernel
theorem dX7_edge_19 : decode cX7_edge 19 = .ok (.if_icmp .ge 61, 3) := by decide +kernel
theorem dX7_edge_22 : decode cX7_edge 22 = .ok (.iconst 0, 1) := by decide +kernel
theorem dX7_edge_23 : decode cX7_edge 23 = .ok (.istore 5, 2) := by decide +kernel
theorem dX7_edge_25 : decode cX7_edge 25 = .ok (.iload 5, 2) := by decide +kernel
theorem dX7_edge_27 : decode cX7_edge 27 = .ok (.aload_n 0, 1) := by decide +kernel
theorem dX7_edge_28 : decode cX7_edge 28 = .ok (.getfield 59, 3) := by decide +kernel
theorem dX7_edge_31 : decode cX7_edge 31 = .ok (.getfield 111, 3) := by decide +kernel
theorem dX7_edge_34 : decode cX7_edge 34 = .ok (.if_icmp .gt 40, 3) := by decide +kernel
theorem dX7_edge_37 : decode cX7_edge 37 = .ok (.aload_n 0, 1) := by decide +kernel
theorem dX7_edge_38 : decode cX7_edge 38 = .ok (.iload 5, 2) := by decide +kernel
theorem dX7_edge_40 : decode cX7_edge 40 = .ok (.iload 4, 2) := by decide +kernel
theorem dX7_edge_42 : decode cX7_edge 42 = .ok (.iload_n 1, 1) := by decide +kernel
theorem dX7_edge_43 : decode cX7_edge 43 = .ok (.invokevirtual 159, 3) := by decide +kernel
theorem dX7_edge_46 : decode cX7_edge 46 = .ok (.istore 6, 2) := by decide +kernel
theorem dX7_edge_48 : decode cX7_edge 48 = .ok (.iload_n 2, 1) := by decide +kernel
theorem dX7_edge_49 : decode cX7_edge 49 = .ok (.ifCond .eq 12, 3) := by decide +kernel
theorem dX7_edge_52 : decode cX7_edge 52 = .ok (.iload_n 3, 1) := by decide +kernel
theorem dX7_edge_53 : decode cX7_edge 53 = .ok (.iload 6, 2) := by decide +kernel
theorem dX7_edge_55 : decode cX7_edge 55 = .ok (.invokestatic 204, 3) := by decide +kernel
theorem dX7_edge_58 : decode cX7_edge 58 = .ok (.goto 9, 3) := by decide +kernel
theorem dX7_edge_61 : decode cX7_edge 61 = .ok (.iload_n 3, 1) := by decide +kernel
theorem dX7_edge_62 : decode cX7_edge 62 = .ok (.iload 6, 2) := by decide +kernel
theorem dX7_edge_64 : decode cX7_edge 64 = .ok (.invokestatic 199, 3) := by decide +kernel
theorem dX7_edge_67 : decode cX7_edge 67 = .ok (.istore_n 3, 1) := by decide +kernel
theorem dX7_edge_68 : decode cX7_edge 68 = .ok (.iinc 5 1, 3) := by decide +kernel
theorem dX7_edge_71 : decode cX7_edge 71 = .ok (.goto (-46), 3) := by decide +kernel
theorem dX7_edge_74 : decode cX7_edge 74 = .ok (.iinc 4 1, 3) := by decide +kernel
theorem dX7_edge_77 : decode cX7_edge 77 = .ok (.goto (-67), 3) := by decide +kernel
theorem dX7_edge_80 : decode cX7_edge 80 = .ok (.iload_n 3, 1) := by decide +kernel
theorem dX7_edge_81 : decode cX7_edge 81 = .ok (.ireturn, 1) := by decide +kernel
theorem dX7_soonestTower_0 : decode cX7_soonestTower 0 = .ok (.bipush (-4), 2) := by decide +kernel
theorem dX7_soonestTower_2 : decode cX7_soonestTower 2 = .ok (.istore_n 3, 1) := by decide +kernel
theorem dX7_soonestTower_3 : decode cX7_soonestTower 3 = .ok (.ldc 186, 2) := by decide +kernel
theorem dX7_soonestTower_5 : decode cX7_soonestTower 5 = .ok (.istore 4, 2) := by decide +kernel
theorem dX7_soonestTower_7 : decode cX7_soonestTower 7 = .ok (.iconst 0, 1) := by decide +kernel
theorem dX7_soonestTower_8 : decode cX7_soonestTower 8 = .ok (.istore 5, 2) := by decide +kernel
theorem dX7_soonestTower_10 : decode cX7_soonestTower 10 = .ok (.iload 5, 2) := by decide +kernel
theorem dX7_soonestTower_12 : decode cX7_soonestTower 12 = .ok (.aload_n 0, 1) := by decide +kernel
theorem dX7_soonestTower_13 : decode cX7_soonestTower 13 = .ok (.getfield 59, 3) := by decide +kernel
theorem dX7_soonestTower_16 : decode cX7_soonestTower 16 = .ok (.getfield 191, 3) := by decide +kernel
theorem dX7_soonestTower_19 : decode cX7_soonestTower 19 = .ok (.if_icmp .ge 52, 3) := by decide +kernel
theorem dX7_soonestTower_22 : decode cX7_soonestTower 22 = .ok (.aload_n 0, 1) := by decide +kernel
theorem dX7_soonestTower_23 : decode cX7_soonestTower 23 = .ok (.getfield 59, 3) := by decide +kernel
theorem dX7_soonestTower_26 : decode cX7_soonestTower 26 = .ok (.iload 5, 2) := by decide +kernel
theorem dX7_soonestTower_28 : decode cX7_soonestTower 28 = .ok (.iload_n 1, 1) := by decide +kernel
theorem dX7_soonestTower_29 : decode cX7_soonestTower 29 = .ok (.invokevirtual 137, 3) := by decide +kernel
theorem dX7_soonestTower_32 : decode cX7_soonestTower 32 = .ok (.ifCond .eq 33, 3) := by decide +kernel
theorem dX7_soonestTower_35 : decode cX7_soonestTower 35 = .ok (.aload_n 0, 1) := by decide +kernel
theorem dX7_soonestTower_36 : decode cX7_soonestTower 36 = .ok (.getfield 59, 3) := by decide +kernel
theorem dX7_soonestTower_39 : decode cX7_soonestTower 39 = .ok (.iload 5, 2) := by decide +kernel
theorem dX7_soonestTower_41 : decode cX7_soonestTower 41 = .ok (.iload_n 2, 1) := by decide +kernel
theorem dX7_soonestTower_42 : decode cX7_soonestTower 42 = .ok (.invokevirtual 283, 3) := by decide +kernel
theorem dX7_soonestTower_45 : decode cX7_soonestTower 45 = .ok (.iload 4, 2) := by decide +kernel
theorem dX7_soonestTower_47 : decode cX7_soonestTower 47 = .ok (.if_icmp .ge 18, 3) := by decide +kernel
theorem dX7_soonestTower_50 : decode cX7_soonestTower 50 = .ok (.aload_n 0, 1) := by decide +kernel
theorem dX7_soonestTower_51 : decode cX7_soonestTower 51 = .ok (.getfield 59, 3) := by decide +kernel
theorem dX7_soonestTower_54 : decode cX7_soonestTower 54 = .ok (.iload 5, 2) := by decide +kernel
theorem dX7_soonestTower_56 : decode cX7_soonestTower 56 = .ok (.iload_n 2, 1) := by decide +kernel
theorem dX7_soonestTower_57 : decode cX7_soonestTower 57 = .ok (.invokevirtual 283, 3) := by decide +kernel
theorem dX7_soonestTower_60 : decode cX7_soonestTower 60 = .ok (.istore 4, 2) := by decide +kernel
theorem dX7_soonestTower_62 : decode cX7_soonestTower 62 = .ok (.iload 5, 2) := by decide +kernel
theorem dX7_soonestTower_64 : decode cX7_soonestTower 64 = .ok (.istore_n 3, 1) := by decide +kernel
theorem dX7_soonestTower_65 : decode cX7_soonestTower 65 = .ok (.iinc 5 1, 3) := by decide +kernel
theorem dX7_soonestTower_68 : decode cX7_soonestTower 68 = .ok (.goto (-58), 3) := by decide +kernel
theorem dX7_soonestTower_71 : decode cX7_soonestTower 71 = .ok (.iload_n 3, 1) := by decide +kernel
theorem dX7_soonestTower_72 : decode cX7_soonestTower 72 = .ok (.ireturn, 1) := by decide +kernel
theorem dX7_blowChosen_0 : decode cX7_blowChosen 0 = .ok (.iconst 0, 1) := by decide +kernel
theorem dX7_blowChosen_1 : decode cX7_blowChosen 1 = .ok (.istore_n 2, 1) := by decide +kernel
theorem dX7_blowChosen_2 : decode cX7_blowChosen 2 = .ok (.iconst 0, 1) := by decide +kernel
theorem dX7_blowChosen_3 : decode cX7_blowChosen 3 = .ok (.istore_n 3, 1) := by decide +kernel
theorem dX7_blowChosen_4 : decode cX7_blowChosen 4 = .ok (.iload_n 3, 1) := by decide +kernel
theorem dX7_blowChosen_5 : decode cX7_blowChosen 5 = .ok (.aload_n 0, 1) := by decide +kernel
theorem dX7_blowChosen_6 : decode cX7_blowChosen 6 = .ok (.getfield 59, 3) := by decide +kernel
theorem dX7_blowChosen_9 : decode cX7_blowChosen 9 = .ok (.getfield 117, 3) := by decide +kernel
theorem dX7_blowChosen_12 : decode cX7_blowChosen 12 = .ok (.if_icmp .ge 38, 3) := by decide +kernel
theorem dX7_blowChosen_15 : decode cX7_blowChosen 15 = .ok (.iload_n 2, 1) := by decide +kernel
theorem dX7_blowChosen_16 : decode cX7_blowChosen 16 = .ok (.aload_n 0, 1) := by decide +kernel
theorem dX7_blowChosen_17 : decode cX7_blowChosen 17 = .ok (.getfield 59, 3) := by decide +kernel
theorem dX7_blowChosen_20 : decode cX7_blowChosen 20 = .ok (.aload_n 0, 1) := by decide +kernel
theorem dX7_blowChosen_21 : decode cX7_blowChosen 21 = .ok (.getfield 53, 3) := by decide +kernel
theorem dX7_blowChosen_24 : decode cX7_blowChosen 24 = .ok (.iload_n 3, 1) := by decide +kernel
theorem dX7_blowChosen_25 : decode cX7_blowChosen 25 = .ok (.iaload, 1) := by decide +kernel
theorem dX7_blowChosen_26 : decode cX7_blowChosen 26 = .ok (.iload_n 1, 1) := by decide +kernel
theorem dX7_blowChosen_27 : decode cX7_blowChosen 27 = .ok (.invokevirtual 283, 3) := by decide +kernel
theorem dX7_blowChosen_30 : decode cX7_blowChosen 30 = .ok (.aload_n 0, 1) := by decide +kernel
theorem dX7_blowChosen_31 : decode cX7_blowChosen 31 = .ok (.getfield 59, 3) := by decide +kernel
theorem dX7_blowChosen_34 : decode cX7_blowChosen 34 = .ok (.getfield 120, 3) := by decide +kernel
theorem dX7_blowChosen_37 : decode cX7_blowChosen 37 = .ok (.iload_n 3, 1) := by decide +kernel
theorem dX7_blowChosen_38 : decode cX7_blowChosen 38 = .ok (.iaload, 1) := by decide +kernel
theorem dX7_blowChosen_39 : decode cX7_blowChosen 39 = .ok (.isub, 1) := by decide +kernel
theorem dX7_blowChosen_40 : decode cX7_blowChosen 40 = .ok (.invokestatic 204, 3) := by decide +kernel
theorem dX7_blowChosen_43 : decode cX7_blowChosen 43 = .ok (.istore_n 2, 1) := by decide +kernel
theorem dX7_blowChosen_44 : decode cX7_blowChosen 44 = .ok (.iinc 3 1, 3) := by decide +kernel
theorem dX7_blowChosen_47 : decode cX7_blowChosen 47 = .ok (.goto (-43), 3) := by decide +kernel
theorem dX7_blowChosen_50 : decode cX7_blowChosen 50 = .ok (.aload_n 0, 1) := by decide +kernel
theorem dX7_blowChosen_51 : decode cX7_blowChosen 51 = .ok (.getfield 26, 3) := by decide +kernel
theorem dX7_blowChosen_54 : decode cX7_blowChosen 54 = .ok (.invokevirtual 89, 3) := by decide +kernel
theorem dX7_blowChosen_57 : decode cX7_blowChosen 57 = .ok (.iconst 0, 1) := by decide +kernel
theorem dX7_blowChosen_58 : decode cX7_blowChosen 58 = .ok (.istore_n 3, 1) := by decide +kernel
theorem dX7_blowChosen_59 : decode cX7_blowChosen 59 = .ok (.iload_n 3, 1) := by decide +kernel
theorem dX7_blowChosen_60 : decode cX7_blowChosen 60 = .ok (.aload_n 0, 1) := by decide +kernel
theorem dX7_blowChosen_61 : decode cX7_blowChosen 61 = .ok (.getfield 59, 3) := by decide +kernel
theorem dX7_blowChosen_64 : decode cX7_blowChosen 64 = .ok (.getfield 117, 3) := by decide +kernel
theorem dX7_blowChosen_67 : decode cX7_blowChosen 67 = .ok (.if_icmp .ge 62, 3) := by decide +kernel
theorem dX7_blowChosen_70 : decode cX7_blowChosen 70 = .ok (.aload_n 0, 1) := by decide +kernel
theorem dX7_blowChosen_71 : decode cX7_blowChosen 71 = .ok (.getfield 59, 3) := by decide +kernel
theorem dX7_blowChosen_74 : decode cX7_blowChosen 74 = .ok (.getfield 120, 3) := by decide +kernel
theorem dX7_blowChosen_77 : decode cX7_blowChosen 77 = .ok (.iload_n 3, 1) := by decide +kernel
theorem dX7_blowChosen_78 : decode cX7_blowChosen 78 = .ok (.iaload, 1) := by decide +kernel
theorem dX7_blowChosen_79 : decode cX7_blowChosen 79 = .ok (.iload_n 2, 1) := by decide +kernel
theorem dX7_blowChosen_80 : decode cX7_blowChosen 80 = .ok (.iadd, 1) := by decide +kernel
theorem dX7_blowChosen_81 : decode cX7_blowChosen 81 = .ok (.aload_n 0, 1) := by decide +kernel
theorem dX7_blowChosen_82 : decode cX7_blowChosen 82 = .ok (.getfield 59, 3) := by decide +kernel
theorem dX7_blowChosen_85 : decode cX7_blowChosen 85 = .ok (.aload_n 0, 1) := by decide +kernel
theorem dX7_blowChosen_86 : decode cX7_blowChosen 86 = .ok (.getfield 53, 3) := by decide +kernel
theorem dX7_blowChosen_89 : decode cX7_blowChosen 89 = .ok (.iload_n 3, 1) := by decide +kernel
theorem dX7_blowChosen_90 : decode cX7_blowChosen 90 = .ok (.iaload, 1) := by decide +kernel
theorem dX7_blowChosen_91 : decode cX7_blowChosen 91 = .ok (.iload_n 1, 1) := by decide +kernel
theorem dX7_blowChosen_92 : decode cX7_blowChosen 92 = .ok (.invokevirtual 283, 3) := by decide +kernel
theorem dX7_blowChosen_95 : decode cX7_blowChosen 95 = .ok (.isub, 1) := by decide +kernel
theorem dX7_blowChosen_96 : decode cX7_blowChosen 96 = .ok (.istore 4, 2) := by decide +kernel
theorem dX7_blowChosen_98 : decode cX7_blowChosen 98 = .ok (.aload_n 0, 1) := by decide +kernel
theorem dX7_blowChosen_99 : decode cX7_blowChosen 99 = .ok (.getfield 26, 3) := by decide +kernel
theorem dX7_blowChosen_102 : decode cX7_blowChosen 102 = .ok (.aload_n 0, 1) := by decide +kernel
theorem dX7_blowChosen_103 : decode cX7_blowChosen 103 = .ok (.getfield 53, 3) := by decide +kernel
theorem dX7_blowChosen_106 : decode cX7_blowChosen 106 = .ok (.iload_n 3, 1) := by decide +kernel
theorem dX7_blowChosen_107 : decode cX7_blowChosen 107 = .ok (.iaload, 1) := by decide +kernel
theorem dX7_blowChosen_108 : decode cX7_blowChosen 108 = .ok (.iload 4, 2) := by decide +kernel
theorem dX7_blowChosen_110 : decode cX7_blowChosen 110 = .ok (.aload_n 0, 1) := by decide +kernel
theorem dX7_blowChosen_111 : decode cX7_blowChosen 111 = .ok (.getfield 59, 3) := by decide +kernel
theorem dX7_blowChosen_114 : decode cX7_blowChosen 114 = .ok (.getfield 123, 3) := by decide +kernel
theorem dX7_blowChosen_117 : decode cX7_blowChosen 117 = .ok (.iload_n 3, 1) := by decide +kernel
theorem dX7_blowChosen_118 : decode cX7_blowChosen 118 = .ok (.iaload, 1) := by decide +kernel
theorem dX7_blowChosen_119 : decode cX7_blowChosen 119 = .ok (.invokevirtual 140, 3) := by decide +kernel
theorem dX7_blowChosen_122 : decode cX7_blowChosen 122 = .ok (.pop, 1) := by decide +kernel
theorem dX7_blowChosen_123 : decode cX7_blowChosen 123 = .ok (.iinc 3 1, 3) := by decide +kernel
theorem dX7_blowChosen_126 : decode cX7_blowChosen 126 = .ok (.goto (-67), 3) := by decide +kernel
theorem dX7_blowChosen_129 : decode cX7_blowChosen 129 = .ok (.iload_n 2, 1) := by decide +kernel
theorem dX7_blowChosen_130 : decode cX7_blowChosen 130 = .ok (.ireturn, 1) := by decide +kernel
theorem dX7_offset_0 : decode cX7_offset 0 = .ok (.ldc 186, 2) := by decide +kernel
theorem dX7_offset_2 : decode cX7_offset 2 = .ok (.istore_n 2, 1) := by decide +kernel
theorem dX7_offset_3 : decode cX7_offset 3 = .ok (.iconst 0, 1) := by decide +kernel
theorem dX7_offset_4 : decode cX7_offset 4 = .ok (.istore_n 3, 1) := by decide +kernel
theorem dX7_offset_5 : decode cX7_offset 5 = .ok (.iload_n 3, 1) := by decide +kernel
theorem dX7_offset_6 : decode cX7_offset 6 = .ok (.aload_n 0, 1) := by decide +kernel
theorem dX7_offset_7 : decode cX7_offset 7 = .ok (.getfield 26, 3) := by decide +kernel
theorem dX7_offset_10 : decode cX7_offset 10 = .ok (.getfield 144, 3) := by decide +kernel
theorem dX7_offset_13 : decode cX7_offset 13 = .ok (.if_icmp .ge 20, 3) := by decide +kernel
theorem dX7_offset_16 : decode cX7_offset 16 = .ok (.iload_n 2, 1) := by decide +kernel
theorem dX7_offset_17 : decode cX7_offset 17 = .ok (.aload_n 0, 1) := by decide +kernel
theorem dX7_offset_18 : decode cX7_offset 18 = .ok (.iload_n 3, 1) := by decide +kernel
theorem dX7_offset_19 : decode cX7_offset 19 = .ok (.iload_n 1, 1) := by decide +kernel
theorem dX7_offset_20 : decode cX7_offset 20 = .ok (.invokevirtual 156, 3) := by decide +kernel
theorem dX7_offset_23 : decode cX7_offset 23 = .ok (.invokestatic 199, 3) := by decide +kernel
theorem dX7_offset_26 : decode cX7_offset 26 = .ok (.istore_n 2, 1) := by decide +kernel
theorem dX7_offset_27 : decode cX7_offset 27 = .ok (.iinc 3 1, 3) := by decide +kernel
theorem dX7_offset_30 : decode cX7_offset 30 = .ok (.goto (-25), 3) := by decide +kernel
theorem dX7_offset_33 : decode cX7_offset 33 = .ok (.iload_n 2, 1) := by decide +kernel
theorem dX7_offset_34 : decode cX7_offset 34 = .ok (.aload_n 0, 1) := by decide +kernel
theorem dX7_offset_35 : decode cX7_offset 35 = .ok (.getfield 59, 3) := by decide +kernel
theorem dX7_offset_38 : decode cX7_offset 38 = .ok (.getfield 120, 3) := by decide +kernel
theorem dX7_offset_41 : decode cX7_offset 41 = .ok (.iconst 0, 1) := by decide +kernel
theorem dX7_offset_42 : decode cX7_offset 42 = .ok (.iaload, 1) := by decide +kernel
theorem dX7_offset_43 : decode cX7_offset 43 = .ok (.isub, 1) := by decide +kernel
theorem dX7_offset_44 : decode cX7_offset 44 = .ok (.ireturn, 1) := by decide +kernel
theorem dX7_isRight_0 : decode cX7_isRight 0 = .ok (.aload_n 0, 1) := by decide +kernel
theorem dX7_isRight_1 : decode cX7_isRight 1 = .ok (.getfield 26, 3) := by decide +kernel
theorem dX7_isRight_4 : decode cX7_isRight 4 = .ok (.getfield 144, 3) := by decide +kernel
theorem dX7_isRight_7 : decode cX7_isRight 7 = .ok (.aload_n 0, 1) := by decide +kernel
theorem dX7_isRight_8 : decode cX7_isRight 8 = .ok (.getfield 59, 3) := by decide +kernel
theorem dX7_isRight_11 : decode cX7_isRight 11 = .ok (.getfield 117, 3) := by decide +kernel
theorem dX7_isRight_14 : decode cX7_isRight 14 = .ok (.if_icmp .eq 5, 3) := by decide +kernel
theorem dX7_isRight_17 : decode cX7_isRight 17 = .ok (.iconst 0, 1) := by decide +kernel
theorem dX7_isRight_18 : decode cX7_isRight 18 = .ok (.ireturn, 1) := by decide +kernel
theorem dX7_isRight_19 : decode cX7_isRight 19 = .ok (.aload_n 0, 1) := by decide +kernel
theorem dX7_isRight_20 : decode cX7_isRight 20 = .ok (.iload_n 1, 1) := by decide +kernel
theorem dX7_isRight_21 : decode cX7_isRight 21 = .ok (.invokevirtual 176, 3) := by decide +kernel
theorem dX7_isRight_24 : decode cX7_isRight 24 = .ok (.istore_n 2, 1) := by decide +kernel
theorem dX7_isRight_25 : decode cX7_isRight 25 = .ok (.iconst 0, 1) := by decide +kernel
theorem dX7_isRight_26 : decode cX7_isRight 26 = .ok (.istore_n 3, 1) := by decide +kernel
theorem dX7_isRight_27 : decode cX7_isRight 27 = .ok (.iconst 0, 1) := by decide +kernel
theorem dX7_isRight_28 : decode cX7_isRight 28 = .ok (.istore 4, 2) := by decide +kernel
theorem dX7_isRight_30 : decode cX7_isRight 30 = .ok (.iload 4, 2) := by decide +kernel
theorem dX7_isRight_32 : decode cX7_isRight 32 = .ok (.aload_n 0, 1) := by decide +kernel
theorem dX7_isRight_33 : decode cX7_isRight 33 = .ok (.getfield 26, 3) := by decide +kernel
theorem dX7_isRight_36 : decode cX7_isRight 36 = .ok (.getfield 144, 3) := by decide +kernel
theorem dX7_isRight_39 : decode cX7_isRight 39 = .ok (.if_icmp .ge 49, 3) := by decide +kernel
theorem dX7_isRight_42 : decode cX7_isRight 42 = .ok (.aload_n 0, 1) := by decide +kernel
theorem dX7_isRight_43 : decode cX7_isRight 43 = .ok (.iload_n 3, 1) := by decide +kernel
theorem dX7_isRight_44 : decode cX7_isRight 44 = .ok (.aload_n 0, 1) := by decide +kernel
theorem dX7_isRight_45 : decode cX7_isRight 45 = .ok (.iload 4, 2) := by decide +kernel
theorem dX7_isRight_47 : decode cX7_isRight 47 = .ok (.iload_n 1, 1) := by decide +kernel
theorem dX7_isRight_48 : decode cX7_isRight 48 = .ok (.invokevirtual 156, 3) := by decide +kernel
theorem dX7_isRight_51 : decode cX7_isRight 51 = .ok (.iload_n 2, 1) := by decide +kernel
theorem dX7_isRight_52 : decode cX7_isRight 52 = .ok (.isub, 1) := by decide +kernel
theorem dX7_isRight_53 : decode cX7_isRight 53 = .ok (.aload_n 0, 1) := by decide +kernel
theorem dX7_isRight_54 : decode cX7_isRight 54 = .ok (.getfield 26, 3) := by decide +kernel
theorem dX7_isRight_57 : decode cX7_isRight 57 = .ok (.getfield 153, 3) := by decide +kernel
theorem dX7_isRight_60 : decode cX7_isRight 60 = .ok (.iload 4, 2) := by decide +kernel
theorem dX7_isRight_62 : decode cX7_isRight 62 = .ok (.iaload, 1) := by decide +kernel
theorem dX7_isRight_63 : decode cX7_isRight 63 = .ok (.invokevirtual 286, 3) := by decide +kernel
theorem dX7_isRight_66 : decode cX7_isRight 66 = .ok (.istore 5, 2) := by decide +kernel
theorem dX7_isRight_68 : decode cX7_isRight 68 = .ok (.iload 5, 2) := by decide +kernel
theorem dX7_isRight_70 : decode cX7_isRight 70 = .ok (.ifCond .ge 5, 3) := by decide +kernel
theorem dX7_isRight_73 : decode cX7_isRight 73 = .ok (.iconst 0, 1) := by decide +kernel
theorem dX7_isRight_74 : decode cX7_isRight 74 = .ok (.ireturn, 1) := by decide +kernel
theorem dX7_isRight_75 : decode cX7_isRight 75 = .ok (.iload_n 3, 1) := by decide +kernel
theorem dX7_isRight_76 : decode cX7_isRight 76 = .ok (.iconst 1, 1) := by decide +kernel
theorem dX7_isRight_77 : decode cX7_isRight 77 = .ok (.iload 5, 2) := by decide +kernel
theorem dX7_isRight_79 : decode cX7_isRight 79 = .ok (.ishl, 1) := by decide +kernel
theorem dX7_isRight_80 : decode cX7_isRight 80 = .ok (.ior, 1) := by decide +kernel
theorem dX7_isRight_81 : decode cX7_isRight 81 = .ok (.istore_n 3, 1) := by decide +kernel
theorem dX7_isRight_82 : decode cX7_isRight 82 = .ok (.iinc 4 1, 3) := by decide +kernel
theorem dX7_isRight_85 : decode cX7_isRight 85 = .ok (.goto (-55), 3) := by decide +kernel
theorem dX7_isRight_88 : decode cX7_isRight 88 = .ok (.iconst 1, 1) := by decide +kernel
theorem dX7_isRight_89 : decode cX7_isRight 89 = .ok (.ireturn, 1) := by decide +kernel
theorem dX7_freeNote_0 : decode cX7_freeNote 0 = .ok (.iconst 0, 1) := by decide +kernel
theorem dX7_freeNote_1 : decode cX7_freeNote 1 = .ok (.istore 4, 2) := by decide +kernel
theorem dX7_freeNote_3 : decode cX7_freeNote 3 = .ok (.iload 4, 2) := by decide +kernel
theorem dX7_freeNote_5 : decode cX7_freeNote 5 = .ok (.aload_n 0, 1) := by decide +kernel
theorem dX7_freeNote_6 : decode cX7_freeNote 6 = .ok (.getfield 59, 3) := by decide +kernel
theorem dX7_freeNote_9 : decode cX7_freeNote 9 = .ok (.getfield 117, 3) := by decide +kernel
theorem dX7_freeNote_12 : decode cX7_freeNote 12 = .ok (.if_icmp .ge 61, 3) := by decide +kernel
theorem dX7_freeNote_15 : decode cX7_freeNote 15 = .ok (.iload_n 1, 1) := by decide +kernel
theorem dX7_freeNote_16 : decode cX7_freeNote 16 = .ok (.iload 4, 2) := by decide +kernel
theorem dX7_freeNote_18 : decode cX7_freeNote 18 = .ok (.ishr, 1) := by decide +kernel
theorem dX7_freeNote_19 : decode cX7_freeNote 19 = .ok (.iconst 1, 1) := by decide +kernel
theorem dX7_freeNote_20 : decode cX7_freeNote 20 = .ok (.iand, 1) := by decide +kernel
theorem dX7_freeNote_21 : decode cX7_freeNote 21 = .ok (.ifCond .ne 7, 3) := by decide +kernel
theorem dX7_freeNote_24 : decode cX7_freeNote 24 = .ok (.iconst 1, 1) := by decide +kernel
theorem dX7_freeNote_25 : decode cX7_freeNote 25 = .ok (.goto 4, 3) := by decide +kernel
theorem dX7_freeNote_28 : decode cX7_freeNote 28 = .ok (.iconst 0, 1) := by decide +kernel
theorem dX7_freeNote_29 : decode cX7_freeNote 29 = .ok (.istore 5, 2) := by decide +kernel
theorem dX7_freeNote_31 : decode cX7_freeNote 31 = .ok (.iload 5, 2) := by decide +kernel
theorem dX7_freeNote_33 : decode cX7_freeNote 33 = .ok (.ifCond .eq 34, 3) := by decide +kernel
theorem dX7_freeNote_36 : decode cX7_freeNote 36 = .ok (.aload_n 0, 1) := by decide +kernel
theorem dX7_freeNote_37 : decode cX7_freeNote 37 = .ok (.getfield 59, 3) := by decide +kernel
theorem dX7_freeNote_40 : decode cX7_freeNote 40 = .ok (.getfield 120, 3) := by decide +kernel
theorem dX7_freeNote_43 : decode cX7_freeNote 43 = .ok (.iload 4, 2) := by decide +kernel
theorem dX7_freeNote_45 : decode cX7_freeNote 45 = .ok (.iaload, 1) := by decide +kernel
theorem dX7_freeNote_46 : decode cX7_freeNote 46 = .ok (.iload_n 2, 1) := by decide +kernel
theorem dX7_freeNote_47 : decode cX7_freeNote 47 = .ok (.if_icmp .ne 20, 3) := by decide +kernel
theorem dX7_freeNote_50 : decode cX7_freeNote 50 = .ok (.aload_n 0, 1) := by decide +kernel
theorem dX7_freeNote_51 : decode cX7_freeNote 51 = .ok (.getfield 59, 3) := by decide +kernel
theorem dX7_freeNote_54 : decode cX7_freeNote 54 = .ok (.getfield 123, 3) := by decide +kernel
theorem dX7_freeNote_57 : decode cX7_freeNote 57 = .ok (.iload 4, 2) := by decide +kernel
theorem dX7_freeNote_59 : decode cX7_freeNote 59 = .ok (.iaload, 1) := by decide +kernel
theorem dX7_freeNote_60 : decode cX7_freeNote 60 = .ok (.iload_n 3, 1) := by decide +kernel
theorem dX7_freeNote_61 : decode cX7_freeNote 61 = .ok (.if_icmp .ne 6, 3) := by decide +kernel
theorem dX7_freeNote_64 : decode cX7_freeNote 64 = .ok (.iload 4, 2) := by decide +kernel
theorem dX7_freeNote_66 : decode cX7_freeNote 66 = .ok (.ireturn, 1) := by decide +kernel
theorem dX7_freeNote_67 : decode cX7_freeNote 67 = .ok (.iinc 4 1, 3) := by decide +kernel
theorem dX7_freeNote_70 : decode cX7_freeNote 70 = .ok (.goto (-67), 3) := by decide +kernel
theorem dX7_freeNote_73 : decode cX7_freeNote 73 = .ok (.bipush (-4), 2) := by decide +kernel
theorem dX7_freeNote_75 : decode cX7_freeNote 75 = .ok (.ireturn, 1) := by decide +kernel
theorem dX7_blowsAreAsNotes_0 : decode cX7_blowsAreAsNotes 0 = .ok (.aload_n 0, 1) := by decide +kernel
theorem dX7_blowsAreAsNotes_1 : decode cX7_blowsAreAsNotes 1 = .ok (.getfield 59, 3) := by decide +kernel
theorem dX7_blowsAreAsNotes_4 : decode cX7_blowsAreAsNotes 4 = .ok (.getfield 117, 3) := by decide +kernel
theorem dX7_blowsAreAsNotes_7 : decode cX7_blowsAreAsNotes 7 = .ok (.ifCond .eq 20, 3) := by decide +kernel
theorem dX7_blowsAreAsNotes_10 : decode cX7_blowsAreAsNotes 10 = .ok (.aload_n 0, 1) := by decide +kernel
theorem dX7_blowsAreAsNotes_11 : decode cX7_blowsAreAsNotes 11 = .ok (.getfield 26, 3) := by decide +kernel
theorem dX7_blowsAreAsNotes_14 : decode cX7_blowsAreAsNotes 14 = .ok (.getfield 144, 3) := by decide +kernel
theorem dX7_blowsAreAsNotes_17 : decode cX7_blowsAreAsNotes 17 = .ok (.aload_n 0, 1) := by decide +kernel
theorem dX7_blowsAreAsNotes_18 : decode cX7_blowsAreAsNotes 18 = .ok (.getfield 59, 3) := by decide +kernel
theorem dX7_blowsAreAsNotes_21 : decode cX7_blowsAreAsNotes 21 = .ok (.getfield 117, 3) := by decide +kernel
theorem dX7_blowsAreAsNotes_24 : decode cX7_blowsAreAsNotes 24 = .ok (.if_icmp .eq 5, 3) := by decide +kernel
theorem dX7_blowsAreAsNotes_27 : decode cX7_blowsAreAsNotes 27 = .ok (.iconst 0, 1) := by decide +kernel
theorem dX7_blowsAreAsNotes_28 : decode cX7_blowsAreAsNotes 28 = .ok (.ireturn, 1) := by decide +kernel
theorem dX7_blowsAreAsNotes_29 : decode cX7_blowsAreAsNotes 29 = .ok (.iconst 0, 1) := by decide +kernel
theorem dX7_blowsAreAsNotes_30 : decode cX7_blowsAreAsNotes 30 = .ok (.istore_n 1, 1) := by decide +kernel
theorem dX7_blowsAreAsNotes_31 : decode cX7_blowsAreAsNotes 31 = .ok (.iload_n 1, 1) := by decide +kernel
theorem dX7_blowsAreAsNotes_32 : decode cX7_blowsAreAsNotes 32 = .ok (.aload_n 0, 1) := by decide +kernel
theorem dX7_blowsAreAsNotes_33 : decode cX7_blowsAreAsNotes 33 = .ok (.getfield 59, 3) := by decide +kernel
theorem dX7_blowsAreAsNotes_36 : decode cX7_blowsAreAsNotes 36 = .ok (.getfield 117, 3) := by decide +kernel
theorem dX7_blowsAreAsNotes_39 : decode cX7_blowsAreAsNotes 39 = .ok (.if_icmp .ge 32, 3) := by decide +kernel
theorem dX7_blowsAreAsNotes_42 : decode cX7_blowsAreAsNotes 42 = .ok (.aload_n 0, 1) := by decide +kernel
theorem dX7_blowsAreAsNotes_43 : decode cX7_blowsAreAsNotes 43 = .ok (.getfield 26, 3) := by decide +kernel
theorem dX7_blowsAreAsNotes_46 : decode cX7_blowsAreAsNotes 46 = .ok (.getfield 153, 3) := by decide +kernel
theorem dX7_blowsAreAsNotes_49 : decode cX7_blowsAreAsNotes 49 = .ok (.iload_n 1, 1) := by decide +kernel
theorem dX7_blowsAreAsNotes_50 : decode cX7_blowsAreAsNotes 50 = .ok (.iaload, 1) := by decide +kernel
theorem dX7_blowsAreAsNotes_51 : decode cX7_blowsAreAsNotes 51 = .ok (.aload_n 0, 1) := by decide +kernel
theorem dX7_blowsAreAsNotes_52 : decode cX7_blowsAreAsNotes 52 = .ok (.getfield 59, 3) := by decide +kernel
theorem dX7_blowsAreAsNotes_55 : decode cX7_blowsAreAsNotes 55 = .ok (.getfield 123, 3) := by decide +kernel
theorem dX7_blowsAreAsNotes_58 : decode cX7_blowsAreAsNotes 58 = .ok (.iload_n 1, 1) := by decide +kernel
theorem dX7_blowsAreAsNotes_59 : decode cX7_blowsAreAsNotes 59 = .ok (.iaload, 1) := by decide +kernel
theorem dX7_blowsAreAsNotes_60 : decode cX7_blowsAreAsNotes 60 = .ok (.if_icmp .eq 5, 3) := by decide +kernel
theorem dX7_blowsAreAsNotes_63 : decode cX7_blowsAreAsNotes 63 = .ok (.iconst 0, 1) := by decide +kernel
theorem dX7_blowsAreAsNotes_64 : decode cX7_blowsAreAsNotes 64 = .ok (.ireturn, 1) := by decide +kernel
theorem dX7_blowsAreAsNotes_65 : decode cX7_blowsAreAsNotes 65 = .ok (.iinc 1 1, 3) := by decide +kernel
theorem dX7_blowsAreAsNotes_68 : decode cX7_blowsAreAsNotes 68 = .ok (.goto (-37), 3) := by decide +kernel
theorem dX7_blowsAreAsNotes_71 : decode cX7_blowsAreAsNotes 71 = .ok (.iconst 1, 1) := by decide +kernel
theorem dX7_blowsAreAsNotes_72 : decode cX7_blowsAreAsNotes 72 = .ok (.ireturn, 1) := by decide +kernel
theorem dX7_offBy_0 : decode cX7_offBy 0 = .ok (.ldc 186, 2) := by decide +kernel
theorem dX7_offBy_2 : decode cX7_offBy 2 = .ok (.istore_n 2, 1) := by decide +kernel
theorem dX7_offBy_3 : decode cX7_offBy 3 = .ok (.ldc_w 289, 3) := by decide +kernel
theorem dX7_offBy_6 : decode cX7_offBy 6 = .ok (.istore_n 3, 1) := by decide +kernel
theorem dX7_offBy_7 : decode cX7_offBy 7 = .ok (.iconst 0, 1) := by decide +kernel
theorem dX7_offBy_8 : decode cX7_offBy 8 = .ok (.istore 4, 2) := by decide +kernel
theorem dX7_offBy_10 : decode cX7_offBy 10 = .ok (.iload 4, 2) := by decide +kernel
theorem dX7_offBy_12 : decode cX7_offBy 12 = .ok (.aload_n 0, 1) := by decide +kernel
theorem dX7_offBy_13 : decode cX7_offBy 13 = .ok (.getfield 59, 3) := by decide +kernel
theorem dX7_offBy_16 : decode cX7_offBy 16 = .ok (.getfield 117, 3) := by decide +kernel
theorem dX7_offBy_19 : decode cX7_offBy 19 = .ok (.if_icmp .ge 43, 3) := by decide +kernel
theorem dX7_offBy_22 : decode cX7_offBy 22 = .ok (.aload_n 0, 1) := by decide +kernel
theorem dX7_offBy_23 : decode cX7_offBy 23 = .ok (.iload 4, 2) := by decide +kernel
theorem dX7_offBy_25 : decode cX7_offBy 25 = .ok (.iload_n 1, 1) := by decide +kernel
theorem dX7_offBy_26 : decode cX7_offBy 26 = .ok (.invokevirtual 156, 3) := by decide +kernel
theorem dX7_offBy_29 : decode cX7_offBy 29 = .ok (.aload_n 0, 1) := by decide +kernel
theorem dX7_offBy_30 : decode cX7_offBy 30 = .ok (.getfield 59, 3) := by decide +kernel
theorem dX7_offBy_33 : decode cX7_offBy 33 = .ok (.getfield 120, 3) := by decide +kernel
theorem dX7_offBy_36 : decode cX7_offBy 36 = .ok (.iload 4, 2) := by decide +kernel
theorem dX7_offBy_38 : decode cX7_offBy 38 = .ok (.iaload, 1) := by decide +kernel
theorem dX7_offBy_39 : decode cX7_offBy 39 = .ok (.isub, 1) := by decide +kernel
theorem dX7_offBy_40 : decode cX7_offBy 40 = .ok (.istore 5, 2) := by decide +kernel
theorem dX7_offBy_42 : decode cX7_offBy 42 = .ok (.iload_n 2, 1) := by decide +kernel
theorem dX7_offBy_43 : decode cX7_offBy 43 = .ok (.iload 5, 2) := by decide +kernel
theorem dX7_offBy_45 : decode cX7_offBy 45 = .ok (.invokestatic 199, 3) := by decide +kernel
theorem dX7_offBy_48 : decode cX7_offBy 48 = .ok (.istore_n 2, 1) := by decide +kernel
theorem dX7_offBy_49 : decode cX7_offBy 49 = .ok (.iload_n 3, 1) := by decide +kernel
theorem dX7_offBy_50 : decode cX7_offBy 50 = .ok (.iload 5, 2) := by decide +kernel
theorem dX7_offBy_52 : decode cX7_offBy 52 = .ok (.invokestatic 204, 3) := by decide +kernel
theorem dX7_offBy_55 : decode cX7_offBy 55 = .ok (.istore_n 3, 1) := by decide +kernel
theorem dX7_offBy_56 : decode cX7_offBy 56 = .ok (.iinc 4 1, 3) := by decide +kernel
theorem dX7_offBy_59 : decode cX7_offBy 59 = .ok (.goto (-49), 3) := by decide +kernel
theorem dX7_offBy_62 : decode cX7_offBy 62 = .ok (.iload_n 3, 1) := by decide +kernel
theorem dX7_offBy_63 : decode cX7_offBy 63 = .ok (.iload_n 2, 1) := by decide +kernel
theorem dX7_offBy_64 : decode cX7_offBy 64 = .ok (.isub, 1) := by decide +kernel
theorem dX7_offBy_65 : decode cX7_offBy 65 = .ok (.ireturn, 1) := by decide +kernel
theorem dX7_measureLags_0 : decode cX7_measureLags 0 = .ok (.iconst 0, 1) := by decide +kernel
theorem dX7_measureLags_1 : decode cX7_measureLags 1 = .ok (.istore_n 3, 1) := by decide +kernel
theorem dX7_measureLags_2 : decode cX7_measureLags 2 = .ok (.iload_n 3, 1) := by decide +kernel
theorem dX7_measureLags_3 : decode cX7_measureLags 3 = .ok (.aload_n 0, 1) := by decide +kernel
theorem dX7_measureLags_4 : decode cX7_measureLags 4 = .ok (.getfield 59, 3) := by decide +kernel
theorem dX7_measureLags_7 : decode cX7_measureLags 7 = .ok (.getfield 191, 3) := by decide +kernel
theorem dX7_measureLags_10 : decode cX7_measureLags 10 = .ok (.if_icmp .ge 34, 3) := by decide +kernel
theorem dX7_measureLags_13 : decode cX7_measureLags 13 = .ok (.aload_n 0, 1) := by decide +kernel
theorem dX7_measureLags_14 : decode cX7_measureLags 14 = .ok (.getfield 49, 3) := by decide +kernel
theorem dX7_measureLags_17 : decode cX7_measureLags 17 = .ok (.iload_n 3, 1) := by decide +kernel
theorem dX7_measureLags_18 : decode cX7_measureLags 18 = .ok (.aload_n 0, 1) := by decide +kernel
theorem dX7_measureLags_19 : decode cX7_measureLags 19 = .ok (.getfield 59, 3) := by decide +kernel
theorem dX7_measureLags_22 : decode cX7_measureLags 22 = .ok (.iload_n 3, 1) := by decide +kernel
theorem dX7_measureLags_23 : decode cX7_measureLags 23 = .ok (.iload_n 2, 1) := by decide +kernel
theorem dX7_measureLags_24 : decode cX7_measureLags 24 = .ok (.invokevirtual 283, 3) := by decide +kernel
theorem dX7_measureLags_27 : decode cX7_measureLags 27 = .ok (.aload_n 0, 1) := by decide +kernel
theorem dX7_measureLags_28 : decode cX7_measureLags 28 = .ok (.getfield 59, 3) := by decide +kernel
theorem dX7_measureLags_31 : decode cX7_measureLags 31 = .ok (.iload_n 3, 1) := by decide +kernel
theorem dX7_measureLags_32 : decode cX7_measureLags 32 = .ok (.iload_n 1, 1) := by decide +kernel
theorem dX7_measureLags_33 : decode cX7_measureLags 33 = .ok (.invokevirtual 283, 3) := by decide +kernel
theorem dX7_measureLags_36 : decode cX7_measureLags 36 = .ok (.isub, 1) := by decide +kernel
theorem dX7_measureLags_37 : decode cX7_measureLags 37 = .ok (.iastore, 1) := by decide +kernel
theorem dX7_measureLags_38 : decode cX7_measureLags 38 = .ok (.iinc 3 1, 3) := by decide +kernel
theorem dX7_measureLags_41 : decode cX7_measureLags 41 = .ok (.goto (-39), 3) := by decide +kernel
theorem dX7_measureLags_44 : decode cX7_measureLags 44 = .ok (.return_, 1) := by decide +kernel
theorem dX7_isFirstOfLag_0 : decode cX7_isFirstOfLag 0 = .ok (.iconst 0, 1) := by decide +kernel
theorem dX7_isFirstOfLag_1 : decode cX7_isFirstOfLag 1 = .ok (.istore_n 2, 1) := by decide +kernel
theorem dX7_isFirstOfLag_2 : decode cX7_isFirstOfLag 2 = .ok (.iload_n 2, 1) := by decide +kernel
theorem dX7_isFirstOfLag_3 : decode cX7_isFirstOfLag 3 = .ok (.iload_n 1, 1) := by decide +kernel
theorem dX7_isFirstOfLag_4 : decode cX7_isFirstOfLag 4 = .ok (.if_icmp .ge 26, 3) := by decide +kernel
theorem dX7_isFirstOfLag_7 : decode cX7_isFirstOfLag 7 = .ok (.aload_n 0, 1) := by decide +kernel
theorem dX7_isFirstOfLag_8 : decode cX7_isFirstOfLag 8 = .ok (.getfield 49, 3) := by decide +kernel
theorem dX7_isFirstOfLag_11 : decode cX7_isFirstOfLag 11 = .ok (.iload_n 2, 1) := by decide +kernel
theorem dX7_isFirstOfLag_12 : decode cX7_isFirstOfLag 12 = .ok (.iaload, 1) := by decide +kernel
theorem dX7_isFirstOfLag_13 : decode cX7_isFirstOfLag 13 = .ok (.aload_n 0, 1) := by decide +kernel
theorem dX7_isFirstOfLag_14 : decode cX7_isFirstOfLag 14 = .ok (.getfield 49, 3) := by decide +kernel
theorem dX7_isFirstOfLag_17 : decode cX7_isFirstOfLag 17 = .ok (.iload_n 1, 1) := by decide +kernel
theorem dX7_isFirstOfLag_18 : decode cX7_isFirstOfLag 18 = .ok (.iaload, 1) := by decide +kernel
theorem dX7_isFirstOfLag_19 : decode cX7_isFirstOfLag 19 = .ok (.if_icmp .ne 5, 3) := by decide +kernel
theorem dX7_isFirstOfLag_22 : decode cX7_isFirstOfLag 22 = .ok (.iconst 0, 1) := by decide +kernel
theorem dX7_isFirstOfLag_23 : decode cX7_isFirstOfLag 23 = .ok (.ireturn, 1) := by decide +kernel
theorem dX7_isFirstOfLag_24 : decode cX7_isFirstOfLag 24 = .ok (.iinc 2 1, 3) := by decide +kernel
theorem dX7_isFirstOfLag_27 : decode cX7_isFirstOfLag 27 = .ok (.goto (-25), 3) := by decide +kernel
theorem dX7_isFirstOfLag_30 : decode cX7_isFirstOfLag 30 = .ok (.iconst 1, 1) := by decide +kernel
theorem dX7_isFirstOfLag_31 : decode cX7_isFirstOfLag 31 = .ok (.ireturn, 1) := by decide +kernel
theorem dX7_lagCanBe_0 : decode cX7_lagCanBe 0 = .ok (.iconst 0, 1) := by decide +kernel
theorem dX7_lagCanBe_1 : decode cX7_lagCanBe 1 = .ok (.istore_n 2, 1) := by decide +kernel
theorem dX7_lagCanBe_2 : decode cX7_lagCanBe 2 = .ok (.iconst 0, 1) := by decide +kernel
theorem dX7_lagCanBe_3 : decode cX7_lagCanBe 3 = .ok (.istore_n 3, 1) := by decide +kernel
theorem dX7_lagCanBe_4 : decode cX7_lagCanBe 4 = .ok (.iload_n 3, 1) := by decide +kernel
theorem dX7_lagCanBe_5 : decode cX7_lagCanBe 5 = .ok (.aload_n 0, 1) := by decide +kernel
theorem dX7_lagCanBe_6 : decode cX7_lagCanBe 6 = .ok (.getfield 59, 3) := by decide +kernel
theorem dX7_lagCanBe_9 : decode cX7_lagCanBe 9 = .ok (.getfield 191, 3) := by decide +kernel
theorem dX7_lagCanBe_12 : decode cX7_lagCanBe 12 = .ok (.if_icmp .ge 31, 3) := by decide +kernel
theorem dX7_lagCanBe_15 : decode cX7_lagCanBe 15 = .ok (.aload_n 0, 1) := by decide +kernel
theorem dX7_lagCanBe_16 : decode cX7_lagCanBe 16 = .ok (.getfield 49, 3) := by decide +kernel
theorem dX7_lagCanBe_19 : decode cX7_lagCanBe 19 = .ok (.iload_n 3, 1) := by decide +kernel
theorem dX7_lagCanBe_20 : decode cX7_lagCanBe 20 = .ok (.iaload, 1) := by decide +kernel
theorem dX7_lagCanBe_21 : decode cX7_lagCanBe 21 = .ok (.iload_n 1, 1) := by decide +kernel
theorem dX7_lagCanBe_22 : decode cX7_lagCanBe 22 = .ok (.if_icmp .ne 15, 3) := by decide +kernel
theorem dX7_lagCanBe_25 : decode cX7_lagCanBe 25 = .ok (.iload_n 2, 1) := by decide +kernel
theorem dX7_lagCanBe_26 : decode cX7_lagCanBe 26 = .ok (.aload_n 0, 1) := by decide +kernel
theorem dX7_lagCanBe_27 : decode cX7_lagCanBe 27 = .ok (.getfield 59, 3) := by decide +kernel
theorem dX7_lagCanBe_30 : decode cX7_lagCanBe 30 = .ok (.getfield 108, 3) := by decide +kernel
theorem dX7_lagCanBe_33 : decode cX7_lagCanBe 33 = .ok (.iload_n 3, 1) := by decide +kernel
theorem dX7_lagCanBe_34 : decode cX7_lagCanBe 34 = .ok (.iaload, 1) := by decide +kernel
theorem dX7_lagCanBe_35 : decode cX7_lagCanBe 35 = .ok (.ior, 1) := by decide +kernel
theorem dX7_lagCanBe_36 : decode cX7_lagCanBe 36 = .ok (.istore_n 2, 1) := by decide +kernel
theorem dX7_lagCanBe_37 : decode cX7_lagCanBe 37 = .ok (.iinc 3 1, 3) := by decide +kernel
theorem dX7_lagCanBe_40 : decode cX7_lagCanBe 40 = .ok (.goto (-36), 3) := by decide +kernel
theorem dX7_lagCanBe_43 : decode cX7_lagCanBe 43 = .ok (.aload_n 0, 1) := by decide +kernel
theorem dX7_lagCanBe_44 : decode cX7_lagCanBe 44 = .ok (.getfield 59, 3) := by decide +kernel
theorem dX7_lagCanBe_47 : decode cX7_lagCanBe 47 = .ok (.invokevirtual 210, 3) := by decide +kernel
theorem dX7_lagCanBe_50 : decode cX7_lagCanBe 50 = .ok (.iload_n 2, 1) := by decide +kernel
theorem dX7_lagCanBe_51 : decode cX7_lagCanBe 51 = .ok (.iconst (-1), 1) := by decide +kernel
theorem dX7_lagCanBe_52 : decode cX7_lagCanBe 52 = .ok (.ixor, 1) := by decide +kernel
theorem dX7_lagCanBe_53 : decode cX7_lagCanBe 53 = .ok (.iand, 1) := by decide +kernel
theorem dX7_lagCanBe_54 : decode cX7_lagCanBe 54 = .ok (.ifCond .ne 7, 3) := by decide +kernel
theorem dX7_lagCanBe_57 : decode cX7_lagCanBe 57 = .ok (.iconst 1, 1) := by decide +kernel
theorem dX7_lagCanBe_58 : decode cX7_lagCanBe 58 = .ok (.goto 4, 3) := by decide +kernel
theorem dX7_lagCanBe_61 : decode cX7_lagCanBe 61 = .ok (.iconst 0, 1) := by decide +kernel
theorem dX7_lagCanBe_62 : decode cX7_lagCanBe 62 = .ok (.ireturn, 1) := by decide +kernel
theorem dX7_towerOfLag_0 : decode cX7_towerOfLag 0 = .ok (.iconst 0, 1) := by decide +kernel
theorem dX7_towerOfLag_1 : decode cX7_towerOfLag 1 = .ok (.istore_n 3, 1) := by decide +kernel
theorem dX7_towerOfLag_2 : decode cX7_towerOfLag 2 = .ok (.iload_n 3, 1) := by decide +kernel
theorem dX7_towerOfLag_3 : decode cX7_towerOfLag 3 = .ok (.aload_n 0, 1) := by decide +kernel
theorem dX7_towerOfLag_4 : decode cX7_towerOfLag 4 = .ok (.getfield 59, 3) := by decide +kernel
theorem dX7_towerOfLag_7 : decode cX7_towerOfLag 7 = .ok (.getfield 191, 3) := by decide +kernel
theorem dX7_towerOfLag_10 : decode cX7_towerOfLag 10 = .ok (.if_icmp .ge 33, 3) := by decide +kernel
theorem dX7_towerOfLag_13 : decode cX7_towerOfLag 13 = .ok (.aload_n 0, 1) := by decide +kernel
theorem dX7_towerOfLag_14 : decode cX7_towerOfLag 14 = .ok (.getfield 49, 3) := by decide +kernel
theorem dX7_towerOfLag_17 : decode cX7_towerOfLag 17 = .ok (.iload_n 3, 1) := by decide +kernel
theorem dX7_towerOfLag_18 : decode cX7_towerOfLag 18 = .ok (.iaload, 1) := by decide +kernel
theorem dX7_towerOfLag_19 : decode cX7_towerOfLag 19 = .ok (.iload_n 2, 1) := by decide +kernel
theorem dX7_towerOfLag_20 : decode cX7_towerOfLag 20 = .ok (.if_icmp .ne 17, 3) := by decide +kernel
theorem dX7_towerOfLag_23 : decode cX7_towerOfLag 23 = .ok (.aload_n 0, 1) := by decide +kernel
theorem dX7_towerOfLag_24 : decode cX7_towerOfLag 24 = .ok (.getfield 59, 3) := by decide +kernel
theorem dX7_towerOfLag_27 : decode cX7_towerOfLag 27 = .ok (.iload_n 3, 1) := by decide +kernel
theorem dX7_towerOfLag_28 : decode cX7_towerOfLag 28 = .ok (.iload_n 1, 1) := by decide +kernel
theorem dX7_towerOfLag_29 : decode cX7_towerOfLag 29 = .ok (.invokevirtual 137, 3) := by decide +kernel
theorem dX7_towerOfLag_32 : decode cX7_towerOfLag 32 = .ok (.ifCond .eq 5, 3) := by decide +kernel
theorem dX7_towerOfLag_35 : decode cX7_towerOfLag 35 = .ok (.iload_n 3, 1) := by decide +kernel
theorem dX7_towerOfLag_36 : decode cX7_towerOfLag 36 = .ok (.ireturn, 1) := by decide +kernel
theorem dX7_towerOfLag_37 : decode cX7_towerOfLag 37 = .ok (.iinc 3 1, 3) := by decide +kernel
theorem dX7_towerOfLag_40 : decode cX7_towerOfLag 40 = .ok (.goto (-38), 3) := by decide +kernel
theorem dX7_towerOfLag_43 : decode cX7_towerOfLag 43 = .ok (.bipush (-4), 2) := by decide +kernel
theorem dX7_towerOfLag_45 : decode cX7_towerOfLag 45 = .ok (.ireturn, 1) := by decide +kernel
theorem dX7_canRun_0 : decode cX7_canRun 0 = .ok (.aload_n 0, 1) := by decide +kernel
theorem dX7_canRun_1 : decode cX7_canRun 1 = .ok (.getfield 59, 3) := by decide +kernel
theorem dX7_canRun_4 : decode cX7_canRun 4 = .ok (.getfield 105, 3) := by decide +kernel
theorem dX7_canRun_7 : decode cX7_canRun 7 = .ok (.aload_n 0, 1) := by decide +kernel
theorem dX7_canRun_8 : decode cX7_canRun 8 = .ok (.getfield 26, 3) := by decide +kernel
theorem dX7_canRun_11 : decode cX7_canRun 11 = .ok (.getfield 147, 3) := by decide +kernel
theorem dX7_canRun_14 : decode cX7_canRun 14 = .ok (.iload_n 1, 1) := by decide +kernel
theorem dX7_canRun_15 : decode cX7_canRun 15 = .ok (.iaload, 1) := by decide +kernel
theorem dX7_canRun_16 : decode cX7_canRun 16 = .ok (.iaload, 1) := by decide +kernel
theorem dX7_canRun_17 : decode cX7_canRun 17 = .ok (.aload_n 0, 1) := by decide +kernel
theorem dX7_canRun_18 : decode cX7_canRun 18 = .ok (.getfield 59, 3) := by decide +kernel
theorem dX7_canRun_21 : decode cX7_canRun 21 = .ok (.getfield 105, 3) := by decide +kernel
theorem dX7_canRun_24 : decode cX7_canRun 24 = .ok (.aload_n 0, 1) := by decide +kernel
theorem dX7_canRun_25 : decode cX7_canRun 25 = .ok (.getfield 26, 3) := by decide +kernel
theorem dX7_canRun_28 : decode cX7_canRun 28 = .ok (.getfield 147, 3) := by decide +kernel
theorem dX7_canRun_31 : decode cX7_canRun 31 = .ok (.iload_n 2, 1) := by decide +kernel
theorem dX7_canRun_32 : decode cX7_canRun 32 = .ok (.iaload, 1) := by decide +kernel
theorem dX7_canRun_33 : decode cX7_canRun 33 = .ok (.iaload, 1) := by decide +kernel
theorem dX7_canRun_34 : decode cX7_canRun 34 = .ok (.invokestatic 290, 3) := by decide +kernel
theorem dX7_canRun_37 : decode cX7_canRun 37 = .ok (.istore_n 3, 1) := by decide +kernel
theorem dX7_canRun_38 : decode cX7_canRun 38 = .ok (.aload_n 0, 1) := by decide +kernel
theorem dX7_canRun_39 : decode cX7_canRun 39 = .ok (.getfield 26, 3) := by decide +kernel
theorem dX7_canRun_42 : decode cX7_canRun 42 = .ok (.getfield 150, 3) := by decide +kernel
theorem dX7_canRun_45 : decode cX7_canRun 45 = .ok (.iload_n 2, 1) := by decide +kernel
theorem dX7_canRun_46 : decode cX7_canRun 46 = .ok (.iaload, 1) := by decide +kernel
theorem dX7_canRun_47 : decode cX7_canRun 47 = .ok (.aload_n 0, 1) := by decide +kernel
theorem dX7_canRun_48 : decode cX7_canRun 48 = .ok (.getfield 26, 3) := by decide +kernel
theorem dX7_canRun_51 : decode cX7_canRun 51 = .ok (.getfield 150, 3) := by decide +kernel
theorem dX7_canRun_54 : decode cX7_canRun 54 = .ok (.iload_n 1, 1) := by decide +kernel
theorem dX7_canRun_55 : decode cX7_canRun 55 = .ok (.iaload, 1) := by decide +kernel
theorem dX7_canRun_56 : decode cX7_canRun 56 = .ok (.isub, 1) := by decide +kernel
theorem dX7_canRun_57 : decode cX7_canRun 57 = .ok (.iconst 1, 1) := by decide +kernel
theorem dX7_canRun_58 : decode cX7_canRun 58 = .ok (.aload_n 0, 1) := by decide +kernel
theorem dX7_canRun_59 : decode cX7_canRun 59 = .ok (.getfield 59, 3) := by decide +kernel
theorem dX7_canRun_62 : decode cX7_canRun 62 = .ok (.getfield 98, 3) := by decide +kernel
theorem dX7_canRun_65 : decode cX7_canRun 65 = .ok (.iconst 3, 1) := by decide +kernel
theorem dX7_canRun_66 : decode cX7_canRun 66 = .ok (.iaload, 1) := by decide +kernel
theorem dX7_canRun_67 : decode cX7_canRun 67 = .ok (.iload_n 3, 1) := by decide +kernel
theorem dX7_canRun_68 : decode cX7_canRun 68 = .ok (.imul, 1) := by decide +kernel
theorem dX7_canRun_69 : decode cX7_canRun 69 = .ok (.invokestatic 204, 3) := by decide +kernel
theorem dX7_canRun_72 : decode cX7_canRun 72 = .ok (.if_icmp .lt 7, 3) := by decide +kernel
theorem dX7_canRun_75 : decode cX7_canRun 75 = .ok (.iconst 1, 1) := by decide +kernel
theorem dX7_canRun_76 : decode cX7_canRun 76 = .ok (.goto 4, 3) := by decide +kernel
theorem dX7_canRun_79 : decode cX7_canRun 79 = .ok (.iconst 0, 1) := by decide +kernel
theorem dX7_canRun_80 : decode cX7_canRun 80 = .ok (.ireturn, 1) := by decide +kernel
theorem dX7_lateness_0 : decode cX7_lateness 0 = .ok (.aload_n 0, 1) := by decide +kernel
theorem dX7_lateness_1 : decode cX7_lateness 1 = .ok (.getfield 26, 3) := by decide +kernel
theorem dX7_lateness_4 : decode cX7_lateness 4 = .ok (.getfield 238, 3) := by decide +kernel
theorem dX7_lateness_7 : decode cX7_lateness 7 = .ok (.iload_n 1, 1) := by decide +kernel
theorem dX7_lateness_8 : decode cX7_lateness 8 = .ok (.iaload, 1) := by decide +kernel
theorem dX7_lateness_9 : decode cX7_lateness 9 = .ok (.aload_n 0, 1) := by decide +kernel
theorem dX7_lateness_10 : decode cX7_lateness 10 = .ok (.iload_n 1, 1) := by decide +kernel
theorem dX7_lateness_11 : decode cX7_lateness 11 = .ok (.iload_n 2, 1) := by decide +kernel
theorem dX7_lateness_12 : decode cX7_lateness 12 = .ok (.invokevirtual 156, 3) := by decide +kernel
theorem dX7_lateness_15 : decode cX7_lateness 15 = .ok (.isub, 1) := by decide +kernel
theorem dX7_lateness_16 : decode cX7_lateness 16 = .ok (.ireturn, 1) := by decide +kernel
theorem dX7_wrongBy_0 : decode cX7_wrongBy 0 = .ok (.iconst 0, 1) := by decide +kernel
theorem dX7_wrongBy_1 : decode cX7_wrongBy 1 = .ok (.istore_n 3, 1) := by decide +kernel
theorem dX7_wrongBy_2 : decode cX7_wrongBy 2 = .ok (.iconst 0, 1) := by decide +kernel
theorem dX7_wrongBy_3 : decode cX7_wrongBy 3 = .ok (.istore 4, 2) := by decide +kernel
theorem dX7_wrongBy_5 : decode cX7_wrongBy 5 = .ok (.iload 4, 2) := by decide +kernel
theorem dX7_wrongBy_7 : decode cX7_wrongBy 7 = .ok (.aload_n 0, 1) := by decide +kernel
theorem dX7_wrongBy_8 : decode cX7_wrongBy 8 = .ok (.getfield 26, 3) := by decide +kernel
theorem dX7_wrongBy_11 : decode cX7_wrongBy 11 = .ok (.getfield 235, 3) := by decide +kernel
theorem dX7_wrongBy_14 : decode cX7_wrongBy 14 = .ok (.if_icmp .ge 69, 3) := by decide +kernel
theorem dX7_wrongBy_17 : decode cX7_wrongBy 17 = .ok (.aload_n 0, 1) := by decide +kernel
theorem dX7_wrongBy_18 : decode cX7_wrongBy 18 = .ok (.iload 4, 2) := by decide +kernel
theorem dX7_wrongBy_20 : decode cX7_wrongBy 20 = .ok (.iload_n 2, 1) := by decide +kernel
theorem dX7_wrongBy_21 : decode cX7_wrongBy 21 = .ok (.invokevirtual 247, 3) := by decide +kernel
theorem dX7_wrongBy_24 : decode cX7_wrongBy 24 = .ok (.istore 5, 2) := by decide +kernel
theorem dX7_wrongBy_26 : decode cX7_wrongBy 26 = .ok (.aload_n 0, 1) := by decide +kernel
theorem dX7_wrongBy_27 : decode cX7_wrongBy 27 = .ok (.getfield 26, 3) := by decide +kernel
theorem dX7_wrongBy_30 : decode cX7_wrongBy 30 = .ok (.getfield 147, 3) := by decide +kernel
theorem dX7_wrongBy_33 : decode cX7_wrongBy 33 = .ok (.iload 4, 2) := by decide +kernel
theorem dX7_wrongBy_35 : decode cX7_wrongBy 35 = .ok (.iaload, 1) := by decide +kernel
theorem dX7_wrongBy_36 : decode cX7_wrongBy 36 = .ok (.iload_n 1, 1) := by decide +kernel
theorem dX7_wrongBy_37 : decode cX7_wrongBy 37 = .ok (.if_icmp .eq 10, 3) := by decide +kernel
theorem dX7_wrongBy_40 : decode cX7_wrongBy 40 = .ok (.iload 5, 2) := by decide +kernel
theorem dX7_wrongBy_42 : decode cX7_wrongBy 42 = .ok (.ifCond .eq 35, 3) := by decide +kernel
theorem dX7_wrongBy_45 : decode cX7_wrongBy 45 = .ok (.iconst 0, 1) := by decide +kernel
theorem dX7_wrongBy_46 : decode cX7_wrongBy 46 = .ok (.ireturn, 1) := by decide +kernel
theorem dX7_wrongBy_47 : decode cX7_wrongBy 47 = .ok (.iload 5, 2) := by decide +kernel
theorem dX7_wrongBy_49 : decode cX7_wrongBy 49 = .ok (.ifCond .eq 23, 3) := by decide +kernel
theorem dX7_wrongBy_52 : decode cX7_wrongBy 52 = .ok (.iload 5, 2) := by decide +kernel
theorem dX7_wrongBy_54 : decode cX7_wrongBy 54 = .ok (.invokestatic 293, 3) := by decide +kernel
theorem dX7_wrongBy_57 : decode cX7_wrongBy 57 = .ok (.bipush 20, 2) := by decide +kernel
theorem dX7_wrongBy_59 : decode cX7_wrongBy 59 = .ok (.if_icmp .gt 13, 3) := by decide +kernel
theorem dX7_wrongBy_62 : decode cX7_wrongBy 62 = .ok (.iload_n 3, 1) := by decide +kernel
theorem dX7_wrongBy_63 : decode cX7_wrongBy 63 = .ok (.ifCond .eq 11, 3) := by decide +kernel
theorem dX7_wrongBy_66 : decode cX7_wrongBy 66 = .ok (.iload_n 3, 1) := by decide +kernel
theorem dX7_wrongBy_67 : decode cX7_wrongBy 67 = .ok (.iload 5, 2) := by decide +kernel
theorem dX7_wrongBy_69 : decode cX7_wrongBy 69 = .ok (.if_icmp .eq 5, 3) := by decide +kernel
theorem dX7_wrongBy_72 : decode cX7_wrongBy 72 = .ok (.iconst 0, 1) := by decide +kernel
theorem dX7_wrongBy_73 : decode cX7_wrongBy 73 = .ok (.ireturn, 1) := by decide +kernel
theorem dX7_wrongBy_74 : decode cX7_wrongBy 74 = .ok (.iload 5, 2) := by decide +kernel
theorem dX7_wrongBy_76 : decode cX7_wrongBy 76 = .ok (.istore_n 3, 1) := by decide +kernel
theorem dX7_wrongBy_77 : decode cX7_wrongBy 77 = .ok (.iinc 4 1, 3) := by decide +kernel
theorem dX7_wrongBy_80 : decode cX7_wrongBy 80 = .ok (.goto (-75), 3) := by decide +kernel
theorem dX7_wrongBy_83 : decode cX7_wrongBy 83 = .ok (.iload_n 3, 1) := by decide +kernel
theorem dX7_wrongBy_84 : decode cX7_wrongBy 84 = .ok (.ireturn, 1) := by decide +kernel
theorem dX7_couldBeAt_0 : decode cX7_couldBeAt 0 = .ok (.aload_n 0, 1) := by decide +kernel
theorem dX7_couldBeAt_1 : decode cX7_couldBeAt 1 = .ok (.iconst 0, 1) := by decide +kernel
theorem dX7_couldBeAt_2 : decode cX7_couldBeAt 2 = .ok (.iload_n 1, 1) := by decide +kernel
theorem dX7_couldBeAt_3 : decode cX7_couldBeAt 3 = .ok (.invokevirtual 247, 3) := by decide +kernel
theorem dX7_couldBeAt_6 : decode cX7_couldBeAt 6 = .ok (.istore_n 2, 1) := by decide +kernel
theorem dX7_couldBeAt_7 : decode cX7_couldBeAt 7 = .ok (.iconst 1, 1) := by decide +kernel
theorem dX7_couldBeAt_8 : decode cX7_couldBeAt 8 = .ok (.istore_n 3, 1) := by decide +kernel
theorem dX7_couldBeAt_9 : decode cX7_couldBeAt 9 = .ok (.iload_n 3, 1) := by decide +kernel
theorem dX7_couldBeAt_10 : decode cX7_couldBeAt 10 = .ok (.aload_n 0, 1) := by decide +kernel
theorem dX7_couldBeAt_11 : decode cX7_couldBeAt 11 = .ok (.getfield 26, 3) := by decide +kernel
theorem dX7_couldBeAt_14 : decode cX7_couldBeAt 14 = .ok (.getfield 235, 3) := by decide +kernel
theorem dX7_couldBeAt_17 : decode cX7_couldBeAt 17 = .ok (.if_icmp .ge 21, 3) := by decide +kernel
theorem dX7_couldBeAt_20 : decode cX7_couldBeAt 20 = .ok (.aload_n 0, 1) := by decide +kernel
theorem dX7_couldBeAt_21 : decode cX7_couldBeAt 21 = .ok (.iload_n 3, 1) := by decide +kernel
theorem dX7_couldBeAt_22 : decode cX7_couldBeAt 22 = .ok (.iload_n 1, 1) := by decide +kernel
theorem dX7_couldBeAt_23 : decode cX7_couldBeAt 23 = .ok (.invokevirtual 247, 3) := by decide +kernel
theorem dX7_couldBeAt_26 : decode cX7_couldBeAt 26 = .ok (.iload_n 2, 1) := by decide +kernel
theorem dX7_couldBeAt_27 : decode cX7_couldBeAt 27 = .ok (.if_icmp .eq 5, 3) := by decide +kernel
theorem dX7_couldBeAt_30 : decode cX7_couldBeAt 30 = .ok (.iconst 0, 1) := by decide +kernel
theorem dX7_couldBeAt_31 : decode cX7_couldBeAt 31 = .ok (.ireturn, 1) := by decide +kernel
theorem dX7_couldBeAt_32 : decode cX7_couldBeAt 32 = .ok (.iinc 3 1, 3) := by decide +kernel
theorem dX7_couldBeAt_35 : decode cX7_couldBeAt 35 = .ok (.goto (-26), 3) := by decide +kernel
theorem dX7_couldBeAt_38 : decode cX7_couldBeAt 38 = .ok (.iconst 1, 1) := by decide +kernel
theorem dX7_couldBeAt_39 : decode cX7_couldBeAt 39 = .ok (.ireturn, 1) := by decide +kernel
theorem dX8_init_0 : decode cX8_init 0 = .ok (.aload_n 0, 1) := by decide +kernel
theorem dX8_init_1 : decode cX8_init 1 = .ok (.invokespecial 1, 3) := by decide +kernel
theorem dX8_init_4 : decode cX8_init 4 = .ok (.aload_n 0, 1) := by decide +kernel
theorem dX8_init_5 : decode cX8_init 5 = .ok (.sipush 480, 3) := by decide +kernel
theorem dX8_init_8 : decode cX8_init 8 = .ok (.newarray .int, 2) := by decide +kernel
theorem dX8_init_10 : decode cX8_init 10 = .ok (.putfield 7, 3) := by decide +kernel
theorem dX8_init_13 : decode cX8_init 13 = .ok (.aload_n 0, 1) := by decide +kernel
theorem dX8_init_14 : decode cX8_init 14 = .ok (.iconst 4, 1) := by decide +kernel
theorem dX8_init_15 : decode cX8_init 15 = .ok (.newarray .int, 2) := by decide +kernel
theorem dX8_init_17 : decode cX8_init 17 = .ok (.dup, 1) := by decide +kernel
theorem dX8_init_18 : decode cX8_init 18 = .ok (.iconst 0, 1) := by decide +kernel
theorem dX8_init_19 : decode cX8_init 19 = .ok (.bipush 9, 2) := by decide +kernel
theorem dX8_init_21 : decode cX8_init 21 = .ok (.iastore, 1) := by decide +kernel
theorem dX8_init_22 : decode cX8_init 22 = .ok (.dup, 1) := by decide +kernel
theorem dX8_init_23 : decode cX8_init 23 = .ok (.iconst 1, 1) := by decide +kernel
theorem dX8_init_24 : decode cX8_init 24 = .ok (.bipush 9, 2) := by decide +kernel
theorem dX8_init_26 : decode cX8_init 26 = .ok (.iastore, 1) := by decide +kernel
theorem dX8_init_27 : decode cX8_init 27 = .ok (.dup, 1) := by decide +kernel
theorem dX8_init_28 : decode cX8_init 28 = .ok (.iconst 2, 1) := by decide +kernel
theorem dX8_init_29 : decode cX8_init 29 = .ok (.iconst 2, 1) := by decide +kernel
theorem dX8_init_30 : decode cX8_init 30 = .ok (.iastore, 1) := by decide +kernel
theorem dX8_init_31 : decode cX8_init 31 = .ok (.dup, 1) := by decide +kernel
theorem dX8_init_32 : decode cX8_init 32 = .ok (.iconst 3, 1) := by decide +kernel
theorem dX8_init_33 : decode cX8_init 33 = .ok (.iconst 3, 1) := by decide +kernel
theorem dX8_init_34 : decode cX8_init 34 = .ok (.iastore, 1) := by decide +kernel
theorem dX8_init_35 : decode cX8_init 35 = .ok (.putfield 13, 3) := by decide +kernel
theorem dX8_init_38 : decode cX8_init 38 = .ok (.aload_n 0, 1) := by decide +kernel
theorem dX8_init_39 : decode cX8_init 39 = .ok (.iconst 3, 1) := by decide +kernel
theorem dX8_init_40 : decode cX8_init 40 = .ok (.newarray .int, 2) := by decide +kernel
theorem dX8_init_42 : decode cX8_init 42 = .ok (.putfield 16, 3) := by decide +kernel
theorem dX8_init_45 : decode cX8_init 45 = .ok (.aload_n 0, 1) := by decide +kernel
theorem dX8_init_46 : decode cX8_init 46 = .ok (.bipush 24, 2) := by decide +kernel
theorem dX8_init_48 : decode cX8_init 48 = .ok (.newarray .int, 2) := by decide +kernel
theorem dX8_init_50 : decode cX8_init 50 = .ok (.putfield 19, 3) := by decide +kernel
theorem dX8_init_53 : decode cX8_init 53 = .ok (.aload_n 0, 1) := by decide +kernel
theorem dX8_init_54 : decode cX8_init 54 = .ok (.bipush 6, 2) := by decide +kernel
theorem dX8_init_56 : decode cX8_init 56 = .ok (.newarray .int, 2) := by decide +kernel
theorem dX8_init_58 : decode cX8_init 58 = .ok (.putfield 22, 3) := by decide +kernel
theorem dX8_init_61 : decode cX8_init 61 = .ok (.aload_n 0, 1) := by decide +kernel
theorem dX8_init_62 : decode cX8_init 62 = .ok (.bipush 18, 2) := by decide +kernel
theorem dX8_init_64 : decode cX8_init 64 = .ok (.newarray .int, 2) := by decide +kernel
theorem dX8_init_66 : decode cX8_init 66 = .ok (.putfield 25, 3) := by decide +kernel
theorem dX8_init_69 : decode cX8_init 69 = .ok (.aload_n 0, 1) := by decide +kernel
theorem dX8_init_70 : decode cX8_init 70 = .ok (.bipush 6, 2) := by decide +kernel
theorem dX8_init_72 : decode cX8_init 72 = .ok (.newarray .int, 2) := by decide +kernel
theorem dX8_init_74 : decode cX8_init 74 = .ok (.putfield 28, 3) := by decide +kernel
theorem dX8_init_77 : decode cX8_init 77 = .ok (.aload_n 0, 1) := by decide +kernel
theorem dX8_init_78 : decode cX8_init 78 = .ok (.bipush 24, 2) := by decide +kernel
theorem dX8_init_80 : decode cX8_init 80 = .ok (.newarray .int, 2) := by decide +kernel
theorem dX8_init_82 : decode cX8_init 82 = .ok (.putfield 31, 3) := by decide +kernel
theorem dX8_init_85 : decode cX8_init 85 = .ok (.aload_n 0, 1) := by decide +kernel
theorem dX8_init_86 : decode cX8_init 86 = .ok (.sipush 320, 3) := by decide +kernel
theorem dX8_init_89 : decode cX8_init 89 = .ok (.newarray .int, 2) := by decide +kernel
theorem dX8_init_91 : decode cX8_init 91 = .ok (.putfield 34, 3) := by decide +kernel
theorem dX8_init_94 : decode cX8_init 94 = .ok (.aload_n 0, 1) := by decide +kernel
theorem dX8_init_95 : decode cX8_init 95 = .ok (.bipush 8, 2) := by decide +kernel
theorem dX8_init_97 : decode cX8_init 97 = .ok (.newarray .int, 2) := by decide +kernel
theorem dX8_init_99 : decode cX8_init 99 = .ok (.dup, 1) := by decide +kernel
theorem dX8_init_100 : decode cX8_init 100 = .ok (.iconst 0, 1) := by decide +kernel
theorem dX8_init_101 : decode cX8_init 101 = .ok (.iconst 0, 1) := by decide +kernel
theorem dX8_init_102 : decode cX8_init 102 = .ok (.iastore, 1) := by decide +kernel
theorem dX8_init_103 : decode cX8_init 103 = .ok (.dup, 1) := by decide +kernel
theorem dX8_init_104 : decode cX8_init 104 = .ok (.iconst 1, 1) := by decide +kernel
theorem dX8_init_105 : decode cX8_init 105 = .ok (.bipush 6, 2) := by decide +kernel
theorem dX8_init_107 : decode cX8_init 107 = .ok (.iastore, 1) := by decide +kernel
theorem dX8_init_108 : decode cX8_init 108 = .ok (.dup, 1) := by decide +kernel
theorem dX8_init_109 : decode cX8_init 109 = .ok (.iconst 2, 1) := by decide +kernel
theorem dX8_init_110 : decode cX8_init 110 = .ok (.bipush 10, 2) := by decide +kernel
theorem dX8_init_112 : decode cX8_init 112 = .ok (.iastore, 1) := by decide +kernel
theorem dX8_init_113 : decode cX8_init 113 = .ok (.dup, 1) := by decide +kernel
theorem dX8_init_114 : decode cX8_init 114 = .ok (.iconst 3, 1) := by decide +kernel
theorem dX8_init_115 : decode cX8_init 115 = .ok (.bipush 13, 2) := by decide +kernel
theorem dX8_init_117 : decode cX8_init 117 = .ok (.iastore, 1) := by decide +kernel
theorem dX8_init_118 : decode cX8_init 118 = .ok (.dup, 1) := by decide +kernel
theorem dX8_init_119 : decode cX8_init 119 = .ok (.iconst 4, 1) := by decide +kernel
theorem dX8_init_120 : decode cX8_init 120 = .ok (.bipush 17, 2) := by decide +kernel
theorem dX8_init_122 : decode cX8_init 122 = .ok (.iastore, 1) := by decide +kernel
theorem dX8_init_123 : decode cX8_init 123 = .ok (.dup, 1) := by decide +kernel
theorem dX8_init_124 : decode cX8_init 124 = .ok (.iconst 5, 1) := by decide +kernel
theorem dX8_init_125 : decode cX8_init 125 = .ok (.bipush 22, 2) := by decide +kernel
theorem dX8_init_127 : decode cX8_init 127 = .ok (.iastore, 1) := by decide +kernel
theorem dX8_init_128 : decode cX8_init 128 = .ok (.dup, 1) := by decide +kernel
theorem dX8_init_129 : decode cX8_init 129 = .ok (.bipush 6, 2) := by decide +kernel
theorem dX8_init_131 : decode cX8_init 131 = .ok (.bipush 26, 2) := by decide +kernel
theorem dX8_init_133 : decode cX8_init 133 = .ok (.iastore, 1) := by decide +kernel
theorem dX8_init_134 : decode cX8_init 134 = .ok (.dup, 1) := by decide +kernel
theorem dX8_init_135 : decode cX8_init 135 = .ok (.bipush 7, 2) := by decide +kernel
theorem dX8_init_137 : decode cX8_init 137 = .ok (.bipush 30, 2) := by decide +kernel
theorem dX8_init_139 : decode cX8_init 139 = .ok (.iastore, 1) := by decide +kernel
theorem dX8_init_140 : decode cX8_init 140 = .ok (.putfield 37, 3) := by decide +kernel
theorem dX8_init_143 : decode cX8_init 143 = .ok (.aload_n 0, 1) := by decide +kernel
theorem dX8_init_144 : decode cX8_init 144 = .ok (.bipush 30, 2) := by decide +kernel
theorem dX8_init_146 : decode cX8_init 146 = .ok (.newarray .int, 2) := by decide +kernel
theorem dX8_init_148 : decode cX8_init 148 = .ok (.dup, 1) := by decide +kernel
theorem dX8_init_149 : decode cX8_init 149 = .ok (.iconst 0, 1) := by decide +kernel
theorem dX8_init_150 : decode cX8_init 150 = .ok (.bipush 103, 2) := by decide +kernel
theorem dX8_init_152 : decode cX8_init 152 = .ok (.iastore, 1) := by decide +kernel
theorem dX8_init_153 : decode cX8_init 153 = .ok (.dup, 1) := by decide +kernel
theorem dX8_init_154 : decode cX8_init 154 = .ok (.iconst 1, 1) := by decide +kernel
theorem dX8_init_155 : decode cX8_init 155 = .ok (.bipush 114, 2) := by decide +kernel
theorem dX8_init_157 : decode cX8_init 157 = .ok (.iastore, 1) := by decide +kernel
theorem dX8_init_158 : decode cX8_init 158 = .ok (.dup, 1) := by decide +kernel
theorem dX8_init_159 : decode cX8_init 159 = .ok (.iconst 2, 1) := by decide +kernel
theorem dX8_init_160 : decode cX8_init 160 = .ok (.bipush 111, 2) := by decide +kernel
theorem dX8_init_162 : decode cX8_init 162 = .ok (.iastore, 1) := by decide +kernel
theorem dX8_init_163 : decode cX8_init 163 = .ok (.dup, 1) := by decide +kernel
theorem dX8_init_164 : decode cX8_init 164 = .ok (.iconst 3, 1) := by decide +kernel
theorem dX8_init_165 : decode cX8_init 165 = .ok (.bipush 117, 2) := by decide +kernel
theorem dX8_init_167 : decode cX8_init 167 = .ok (.iastore, 1) := by decide +kernel
theorem dX8_init_168 : decode cX8_init 168 = .ok (.dup, 1) := by decide +kernel
theorem dX8_init_169 : decode cX8_init 169 = .ok (.iconst 4, 1) := by decide +kernel
theorem dX8_init_170 : decode cX8_init 170 = .ok (.bipush 110, 2) := by decide +kernel
theorem dX8_init_172 : decode cX8_init 172 = .ok (.iastore, 1) := by decide +kernel
theorem dX8_init_173 : decode cX8_init 173 = .ok (.dup, 1) := by decide +kernel
theorem dX8_init_174 : decode cX8_init 174 = .ok (.iconst 5, 1) := by decide +kernel
theorem dX8_init_175 : decode cX8_init 175 = .ok (.bipush 100, 2) := by decide +kernel
theorem dX8_init_177 : decode cX8_init 177 = .ok (.iastore, 1) := by decide +kernel
theorem dX8_init_178 : decode cX8_init 178 = .ok (.dup, 1) := by decide +kernel
theorem dX8_init_179 : decode cX8_init 179 = .ok (.bipush 6, 2) := by decide +kernel
theorem dX8_init_181 : decode cX8_init 181 = .ok (.bipush 112, 2) := by decide +kernel
theorem dX8_init_183 : decode cX8_init 183 = .ok (.iastore, 1) := by decide +kernel
theorem dX8_init_184 : decode cX8_init 184 = .ok (.dup, 1) := by decide +kernel
theorem dX8_init_185 : decode cX8_init 185 = .ok (.bipush 7, 2) := by decide +kernel
theorem dX8_init_187 : decode cX8_init 187 = .ok (.bipush 97, 2) := by decide +kernel
theorem dX8_init_189 : decode cX8_init 189 = .ok (.iastore, 1) := by decide +kernel
theorem dX8_init_190 : decode cX8_init 190 = .ok (.dup, 1) := by decide +kernel
theorem dX8_init_191 : decode cX8_init 191 = .ok (.bipush 8, 2) := by decide +kernel
theorem dX8_init_193 : decode cX8_init 193 = .ok (.bipush 99, 2) := by decide +kernel
theorem dX8_init_195 : decode cX8_init 195 = .ok (.iastore, 1) := by decide +kernel
theorem dX8_init_196 : decode cX8_init 196 = .ok (.dup, 1) := by decide +kernel
theorem dX8_init_197 : decode cX8_init 197 = .ok (.bipush 9, 2) := by decide +kernel
theorem dX8_init_199 : decode cX8_init 199 = .ok (.bipush 101, 2) := by decide +kernel
theorem dX8_init_201 : decode cX8_init 201 = .ok (.iastore, 1) := by decide +kernel
theorem dX8_init_202 : decode cX8_init 202 = .ok (.dup, 1) := by decide +kernel
theorem dX8_init_203 : decode cX8_init 203 = .ok (.bipush 10, 2) := by decide +kernel
theorem dX8_init_205 : decode cX8_init 205 = .ok (.bipush 114, 2) := by decide +kernel
theorem dX8_init_207 : decode cX8_init 207 = .ok (.iastore, 1) := by decide +kernel
theorem dX8_init_208 : decode cX8_init 208 = .ok (.dup, 1) := by decide +kernel
theorem dX8_init_209 : decode cX8_init 209 = .ok (.bipush 11, 2) := by decide +kernel
theorem dX8_init_211 : decode cX8_init 211 = .ok (.bipush 117, 2) := by decide +kernel
theorem dX8_init_213 : decode cX8_init 213 = .ok (.iastore, 1) := by decide +kernel
theorem dX8_init_214 : decode cX8_init 214 = .ok (.dup, 1) := by decide +kernel
theorem dX8_init_215 : decode cX8_init 215 = .ok (.bipush 12, 2) := by decide +kernel
theorem dX8_init_217 : decode cX8_init 217 = .ok (.bipush 110, 2) := by decide +kernel
theorem dX8_init_219 : decode cX8_init 219 = .ok (.iastore, 1) := by decide +kernel
theorem dX8_init_220 : decode cX8_init 220 = .ok (.dup, 1) := by decide +kernel
theorem dX8_init_221 : decode cX8_init 221 = .ok (.bipush 13, 2) := by decide +kernel
theorem dX8_init_223 : decode cX8_init 223 = .ok (.bipush 119, 2) := by decide +kernel
theorem dX8_init_225 : decode cX8_init 225 = .ok (.iastore, 1) := by decide +kernel
theorem dX8_init_226 : decode cX8_init 226 = .ok (.dup, 1) := by decide +kernel
theorem dX8_init_227 : decode cX8_init 227 = .ok (.bipush 14, 2) := by decide +kernel
theorem dX8_init_229 : decode cX8_init 229 = .ok (.bipush 105, 2) := by decide +kernel
theorem dX8_init_231 : decode cX8_init 231 = .ok (.iastore, 1) := by decide +kernel
theorem dX8_init_232 : decode cX8_init 232 = .ok (.dup, 1) := by decide +kernel
theorem dX8_init_233 : decode cX8_init 233 = .ok (.bipush 15, 2) := by decide +kernel
theorem dX8_init_235 : decode cX8_init 235 = .ok (.bipush 110, 2) := by decide +kernel
theorem dX8_init_237 : decode cX8_init 237 = .ok (.iastore, 1) := by decide +kernel
theorem dX8_init_238 : decode cX8_init 238 = .ok (.dup, 1) := by decide +kernel
theorem dX8_init_239 : decode cX8_init 239 = .ok (.bipush 16, 2) := by decide +kernel
theorem dX8_init_241 : decode cX8_init 241 = .ok (.bipush 100, 2) := by decide +kernel
theorem dX8_init_243 : decode cX8_init 243 = .ok (.iastore, 1) := by decide +kernel
theorem dX8_init_244 : decode cX8_init 244 = .ok (.dup, 1) := by decide +kernel
theorem dX8_init_245 : decode cX8_init 245 = .ok (.bipush 17, 2) := by decide +kernel
theorem dX8_init_247 : decode cX8_init 247 = .ok (.bipush 116, 2) := by decide +kernel
theorem dX8_init_249 : decode cX8_init 249 = .ok (.iastore, 1) := by decide +kernel
theorem dX8_init_250 : decode cX8_init 250 = .ok (.dup, 1) := by decide +kernel
theorem dX8_init_251 : decode cX8_init 251 = .ok (.bipush 18, 2) := by decide +kernel
theorem dX8_init_253 : decode cX8_init 253 = .ok (.bipush 111, 2) := by decide +kernel
theorem dX8_init_255 : decode cX8_init 255 = .ok (.iastore, 1) := by decide +kernel
theorem dX8_init_256 : decode cX8_init 256 = .ok (.dup, 1) := by decide +kernel
theorem dX8_init_257 : decode cX8_init 257 = .ok (.bipush 19, 2) := by decide +kernel
theorem dX8_init_259 : decode cX8_init 259 = .ok (.bipush 119, 2) := by decide +kernel
theorem dX8_init_261 : decode cX8_init 261 = .ok (.iastore, 1) := by decide +kernel
theorem dX8_init_262 : decode cX8_init 262 = .ok (.dup, 1) := by decide +kernel
theorem dX8_init_263 : decode cX8_init 263 = .ok (.bipush 20, 2) := by decide +kernel
theorem dX8_init_265 : decode cX8_init 265 = .ok (.bipush 101, 2) := by decide +kernel
theorem dX8_init_267 : decode cX8_init 267 = .ok (.iastore, 1) := by decide +kernel
theorem dX8_init_268 : decode cX8_init 268 = .ok (.dup, 1) := by decide +kernel
theorem dX8_init_269 : decode cX8_init 269 = .ok (.bipush 21, 2) := by decide +kernel
theorem dX8_init_271 : decode cX8_init 271 = .ok (.bipush 114, 2) := by decide +kernel
theorem dX8_init_273 : decode cX8_init 273 = .ok (.iastore, 1) := by decide +kernel
theorem dX8_init_274 : decode cX8_init 274 = .ok (.dup, 1) := by decide +kernel
theorem dX8_init_275 : decode cX8_init 275 = .ok (.bipush 22, 2) := by decide +kernel
theorem dX8_init_277 : decode cX8_init 277 = .ok (.bipush 104, 2) := by decide +kernel
theorem dX8_init_279 : decode cX8_init 279 = .ok (.iastore, 1) := by decide +kernel
theorem dX8_init_280 : decode cX8_init 280 = .ok (.dup, 1) := by decide +kernel
theorem dX8_init_281 : decode cX8_init 281 = .ok (.bipush 23, 2) := by decide +kernel
theorem dX8_init_283 : decode cX8_init 283 = .ok (.bipush 105, 2) := by decide +kernel
theorem dX8_init_285 : decode cX8_init 285 = .ok (.iastore, 1) := by decide +kernel
theorem dX8_init_286 : decode cX8_init 286 = .ok (.dup, 1) := by decide +kernel
theorem dX8_init_287 : decode cX8_init 287 = .ok (.bipush 24, 2) := by decide +kernel
theorem dX8_init_289 : decode cX8_init 289 = .ok (.bipush 108, 2) := by decide +kernel
theorem dX8_init_291 : decode cX8_init 291 = .ok (.iastore, 1) := by decide +kernel
theorem dX8_init_292 : decode cX8_init 292 = .ok (.dup, 1) := by decide +kernel
theorem dX8_init_293 : decode cX8_init 293 = .ok (.bipush 25, 2) := by decide +kernel
theorem dX8_init_295 : decode cX8_init 295 = .ok (.bipush 108, 2) := by decide +kernel
theorem dX8_init_297 : decode cX8_init 297 = .ok (.iastore, 1) := by decide +kernel
theorem dX8_init_298 : decode cX8_init 298 = .ok (.dup, 1) := by decide +kernel
theorem dX8_init_299 : decode cX8_init 299 = .ok (.bipush 26, 2) := by decide +kernel
theorem dX8_init_301 : decode cX8_init 301 = .ok (.bipush 110, 2) := by decide +kernel
theorem dX8_init_303 : decode cX8_init 303 = .ok (.iastore, 1) := by decide +kernel
theorem dX8_init_304 : decode cX8_init 304 = .ok (.dup, 1) := by decide +kernel
theorem dX8_init_305 : decode cX8_init 305 = .ok (.bipush 27, 2) := by decide +kernel
theorem dX8_init_307 : decode cX8_init 307 = .ok (.bipush 111, 2) := by decide +kernel
theorem dX8_init_309 : decode cX8_init 309 = .ok (.iastore, 1) := by decide +kernel
theorem dX8_init_310 : decode cX8_init 310 = .ok (.dup, 1) := by decide +kernel
theorem dX8_init_311 : decode cX8_init 311 = .ok (.bipush 28, 2) := by decide +kernel
theorem dX8_init_313 : decode cX8_init 313 = .ok (.bipush 116, 2) := by decide +kernel
theorem dX8_init_315 : decode cX8_init 315 = .ok (.iastore, 1) := by decide +kernel
theorem dX8_init_316 : decode cX8_init 316 = .ok (.dup, 1) := by decide +kernel
theorem dX8_init_317 : decode cX8_init 317 = .ok (.bipush 29, 2) := by decide +kernel
theorem dX8_init_319 : decode cX8_init 319 = .ok (.bipush 101, 2) := by decide +kernel
theorem dX8_init_321 : decode cX8_init 321 = .ok (.iastore, 1) := by decide +kernel
theorem dX8_init_322 : decode cX8_init 322 = .ok (.putfield 40, 3) := by decide +kernel
theorem dX8_init_325 : decode cX8_init 325 = .ok (.aload_n 0, 1) := by decide +kernel
theorem dX8_init_326 : decode cX8_init 326 = .ok (.bipush 12, 2) := by decide +kernel
theorem dX8_init_328 : decode cX8_init 328 = .ok (.newarray .int, 2) := by decide +kernel
theorem dX8_init_330 : decode cX8_init 330 = .ok (.putfield 43, 3) := by decide +kernel
theorem dX8_init_333 : decode cX8_init 333 = .ok (.aload_n 0, 1) := by decide +kernel
theorem dX8_init_334 : decode cX8_init 334 = .ok (.bipush 24, 2) := by decide +kernel
theorem dX8_init_336 : decode cX8_init 336 = .ok (.newarray .int, 2) := by decide +kernel
theorem dX8_init_338 : decode cX8_init 338 = .ok (.putfield 46, 3) := by decide +kernel
theorem dX8_init_341 : decode cX8_init 341 = .ok (.aload_n 0, 1) := by decide +kernel
theorem dX8_init_342 : decode cX8_init 342 = .ok (.bipush 24, 2) := by decide +kernel
theorem dX8_init_344 : decode cX8_init 344 = .ok (.newarray .int, 2) := by decide +kernel
theorem dX8_init_346 : decode cX8_init 346 = .ok (.putfield 49, 3) := by decide +kernel
theorem dX8_init_349 : decode cX8_init 349 = .ok (.aload_n 0, 1) := by decide +kernel
theorem dX8_init_350 : decode cX8_init 350 = .ok (.bipush 24, 2) := by decide +kernel
theorem dX8_init_352 : decode cX8_init 352 = .ok (.newarray .int, 2) := by decide +kernel
theorem dX8_init_354 : decode cX8_init 354 = .ok (.putfield 52, 3) := by decide +kernel
theorem dX8_init_357 : decode cX8_init 357 = .ok (.aload_n 0, 1) := by decide +kernel
theorem dX8_init_358 : decode cX8_init 358 = .ok (.bipush 24, 2) := by decide +kernel
theorem dX8_init_360 : decode cX8_init 360 = .ok (.newarray .int, 2) := by decide +kernel
theorem dX8_init_362 : decode cX8_init 362 = .ok (.putfield 55, 3) := by decide +kernel
theorem dX8_init_365 : decode cX8_init 365 = .ok (.aload_n 0, 1) := by decide +kernel
theorem dX8_init_366 : decode cX8_init 366 = .ok (.iconst 2, 1) := by decide +kernel
theorem dX8_init_367 : decode cX8_init 367 = .ok (.newarray .boolean, 2) := by decide +kernel
theorem dX8_init_369 : decode cX8_init 369 = .ok (.putfield 58, 3) := by decide +kernel
theorem dX8_init_372 : decode cX8_init 372 = .ok (.aload_n 0, 1) := by decide +kernel
theorem dX8_init_373 : decode cX8_init 373 = .ok (.iconst 4, 1) := by decide +kernel
theorem dX8_init_374 : decode cX8_init 374 = .ok (.newarray .int, 2) := by decide +kernel
theorem dX8_init_376 : decode cX8_init 376 = .ok (.dup, 1) := by decide +kernel
theorem dX8_init_377 : decode cX8_init 377 = .ok (.iconst 0, 1) := by decide +kernel
theorem dX8_init_378 : decode cX8_init 378 = .ok (.bipush (-4), 2) := by decide +kernel
theorem dX8_init_380 : decode cX8_init 380 = .ok (.iastore, 1) := by decide +kernel
theorem dX8_init_381 : decode cX8_init 381 = .ok (.dup, 1) := by decide +kernel
theorem dX8_init_382 : decode cX8_init 382 = .ok (.iconst 1, 1) := by decide +kernel
theorem dX8_init_383 : decode cX8_init 383 = .ok (.bipush (-4), 2) := by decide +kernel
theorem dX8_init_385 : decode cX8_init 385 = .ok (.iastore, 1) := by decide +kernel
theorem dX8_init_386 : decode cX8_init 386 = .ok (.dup, 1) := by decide +kernel
theorem dX8_init_387 : decode cX8_init 387 = .ok (.iconst 2, 1) := by decide +kernel
theorem dX8_init_388 : decode cX8_init 388 = .ok (.bipush (-4), 2) := by decide +kernel
theorem dX8_init_390 : decode cX8_init 390 = .ok (.iastore, 1) := by decide +kernel
theorem dX8_init_391 : decode cX8_init 391 = .ok (.dup, 1) := by decide +kernel
theorem dX8_init_392 : decode cX8_init 392 = .ok (.iconst 3, 1) := by decide +kernel
theorem dX8_init_393 : decode cX8_init 393 = .ok (.bipush (-4), 2) := by decide +kernel
theorem dX8_init_395 : decode cX8_init 395 = .ok (.iastore, 1) := by decide +kernel
theorem dX8_init_396 : decode cX8_init 396 = .ok (.putfield 62, 3) := by decide +kernel
theorem dX8_init_399 : decode cX8_init 399 = .ok (.aload_n 0, 1) := by decide +kernel
theorem dX8_init_400 : decode cX8_init 400 = .ok (.iconst 4, 1) := by decide +kernel
theorem dX8_init_401 : decode cX8_init 401 = .ok (.newarray .int, 2) := by decide +kernel
theorem dX8_init_403 : decode cX8_init 403 = .ok (.putfield 65, 3) := by decide +kernel
theorem dX8_init_406 : decode cX8_init 406 = .ok (.aload_n 0, 1) := by decide +kernel
theorem dX8_init_407 : decode cX8_init 407 = .ok (.sipush 160, 3) := by decide +kernel
theorem dX8_init_410 : decode cX8_init 410 = .ok (.newarray .int, 2) := by decide +kernel
theorem dX8_init_412 : decode cX8_init 412 = .ok (.putfield 68, 3) := by decide +kernel
theorem dX8_init_415 : decode cX8_init 415 = .ok (.return_, 1) := by decide +kernel
theorem dX8_in_0 : decode cX8_in 0 = .ok (.lload_n 0, 1) := by decide +kernel
theorem dX8_in_1 : decode cX8_in 1 = .ok (.lload_n 2, 1) := by decide +kernel
theorem dX8_in_2 : decode cX8_in 2 = .ok (.lcmp, 1) := by decide +kernel
theorem dX8_in_3 : decode cX8_in 3 = .ok (.ifCond .lt 14, 3) := by decide +kernel
theorem dX8_in_6 : decode cX8_in 6 = .ok (.lload_n 0, 1) := by decide +kernel
theorem dX8_in_7 : decode cX8_in 7 = .ok (.lload 4, 2) := by decide +kernel
theorem dX8_in_9 : decode cX8_in 9 = .ok (.lcmp, 1) := by decide +kernel
theorem dX8_in_10 : decode cX8_in 10 = .ok (.ifCond .gt 7, 3) := by decide +kernel
theorem dX8_in_13 : decode cX8_in 13 = .ok (.iconst 1, 1) := by decide +kernel
theorem dX8_in_14 : decode cX8_in 14 = .ok (.goto 4, 3) := by decide +kernel
theorem dX8_in_17 : decode cX8_in 17 = .ok (.iconst 0, 1) := by decide +kernel
theorem dX8_in_18 : decode cX8_in 18 = .ok (.ireturn, 1) := by decide +kernel
theorem dX8_awake_0 : decode cX8_awake 0 = .ok (.aload_n 0, 1) := by decide +kernel
theorem dX8_awake_1 : decode cX8_awake 1 = .ok (.getfield 71, 3) := by decide +kernel
theorem dX8_awake_4 : decode cX8_awake 4 = .ok (.ifCond .ne 24, 3) := by decide +kernel
theorem dX8_awake_7 : decode cX8_awake 7 = .ok (.aload_n 0, 1) := by decide +kernel
theorem dX8_awake_8 : decode cX8_awake 8 = .ok (.getfield 7, 3) := by decide +kernel
theorem dX8_awake_11 : decode cX8_awake 11 = .ok (.bipush 12, 2) := by decide +kernel
theorem dX8_awake_13 : decode cX8_awake 13 = .ok (.iconst 1, 1) := by decide +kernel
theorem dX8_awake_14 : decode cX8_awake 14 = .ok (.iastore, 1) := by decide +kernel
theorem dX8_awake_15 : decode cX8_awake 15 = .ok (.aload_n 0, 1) := by decide +kernel
theorem dX8_awake_16 : decode cX8_awake 16 = .ok (.getfield 7, 3) := by decide +kernel
theorem dX8_awake_19 : decode cX8_awake 19 = .ok (.bipush 13, 2) := by decide +kernel
theorem dX8_awake_21 : decode cX8_awake 21 = .ok (.iconst 1, 1) := by decide +kernel
theorem dX8_awake_22 : decode cX8_awake 22 = .ok (.iastore, 1) := by decide +kernel
theorem dX8_awake_23 : decode cX8_awake 23 = .ok (.aload_n 0, 1) := by decide +kernel
theorem dX8_awake_24 : decode cX8_awake 24 = .ok (.iconst 1, 1) := by decide +kernel
theorem dX8_awake_25 : decode cX8_awake 25 = .ok (.putfield 71, 3) := by decide +kernel
theorem dX8_awake_28 : decode cX8_awake 28 = .ok (.return_, 1) := by decide +kernel
theorem dX8_feed_0 : decode cX8_feed 0 = .ok (.aload_n 0, 1) := by decide +kernel
theorem dX8_feed_1 : decode cX8_feed 1 = .ok (.getfield 75, 3) := by decide +kernel
theorem dX8_feed_4 : decode cX8_feed 4 = .ok (.bipush 8, 2) := by decide +kernel
theorem dX8_feed_6 : decode cX8_feed 6 = .ok (.iadd, 1) := by decide +kernel
theorem dX8_feed_7 : decode cX8_feed 7 = .ok (.sipush 320, 3) := by decide +kernel
theorem dX8_feed_10 : decode cX8_feed 10 = .ok (.if_icmp .le 6, 3) := by decide +kernel
theorem dX8_feed_13 : decode cX8_feed 13 = .ok (.bipush (-3), 2) := by decide +kernel
theorem dX8_feed_15 : decode cX8_feed 15 = .ok (.ireturn, 1) := by decide +kernel
theorem dX8_feed_16 : decode cX8_feed 16 = .ok (.bipush 56, 2) := by decide +kernel
theorem dX8_feed_18 : decode cX8_feed 18 = .ok (.istore_n 3, 1) := by decide +kernel
theorem dX8_feed_19 : decode cX8_feed 19 = .ok (.iload_n 3, 1) := by decide +kernel
theorem dX8_feed_20 : decode cX8_feed 20 = .ok (.ifCond .lt 36, 3) := by decide +kernel
theorem dX8_feed_23 : decode cX8_feed 23 = .ok (.aload_n 0, 1) := by decide +kernel
theorem dX8_feed_24 : decode cX8_feed 24 = .ok (.getfield 34, 3) := by decide +kernel
theorem dX8_feed_27 : decode cX8_feed 27 = .ok (.aload_n 0, 1) := by decide +kernel
theorem dX8_feed_28 : decode cX8_feed 28 = .ok (.getfield 75, 3) := by decide +kernel
theorem dX8_feed_31 : decode cX8_feed 31 = .ok (.lload_n 1, 1) := by decide +kernel
theorem dX8_feed_32 : decode cX8_feed 32 = .ok (.iload_n 3, 1) := by decide +kernel
theorem dX8_feed_33 : decode cX8_feed 33 = .ok (.lshr, 1) := by decide +kernel
theorem dX8_feed_34 : decode cX8_feed 34 = .ok (.l2i, 1) := by decide +kernel
theorem dX8_feed_35 : decode cX8_feed 35 = .ok (.sipush 255, 3) := by decide +kernel
theorem dX8_feed_38 : decode cX8_feed 38 = .ok (.iand, 1) := by decide +kernel
theorem dX8_feed_39 : decode cX8_feed 39 = .ok (.iastore, 1) := by decide +kernel
theorem dX8_feed_40 : decode cX8_feed 40 = .ok (.aload_n 0, 1) := by decide +kernel
theorem dX8_feed_41 : decode cX8_feed 41 = .ok (.dup, 1) := by decide +kernel
theorem dX8_feed_42 : decode cX8_feed 42 = .ok (.getfield 75, 3) := by decide +kernel
theorem dX8_feed_45 : decode cX8_feed 45 = .ok (.iconst 1, 1) := by decide +kernel
theorem dX8_feed_46 : decode cX8_feed 46 = .ok (.iadd, 1) := by decide +kernel
theorem dX8_feed_47 : decode cX8_feed 47 = .ok (.putfield 75, 3) := by decide +kernel
theorem dX8_feed_50 : decode cX8_feed 50 = .ok (.iinc 3 (-8), 3) := by decide +kernel
theorem dX8_feed_53 : decode cX8_feed 53 = .ok (.goto (-34), 3) := by decide +kernel
theorem dX8_feed_56 : decode cX8_feed 56 = .ok (.aload_n 0, 1) := by decide +kernel
theorem dX8_feed_57 : decode cX8_feed 57 = .ok (.getfield 75, 3) := by decide +kernel
theorem dX8_feed_60 : decode cX8_feed 60 = .ok (.ireturn, 1) := by decide +kernel
theorem dX8_end_0 : decode cX8_end 0 = .ok (.iload_n 1, 1) := by decide +kernel
theorem dX8_end_1 : decode cX8_end 1 = .ok (.i2l, 1) := by decide +kernel
theorem dX8_end_2 : decode cX8_end 2 = .ok (.lconst 0, 1) := by decide +kernel
theorem dX8_end_3 : decode cX8_end 3 = .ok (.aload_n 0, 1) := by decide +kernel
theorem dX8_end_4 : decode cX8_end 4 = .ok (.getfield 75, 3) := by decide +kernel
theorem dX8_end_7 : decode cX8_end 7 = .ok (.i2l, 1) := by decide +kernel
theorem dX8_end_8 : decode cX8_end 8 = .ok (.invokestatic 79, 3) := by decide +kernel
theorem dX8_end_11 : decode cX8_end 11 = .ok (.ifCond .ne 5, 3) := by decide +kernel
theorem dX8_end_14 : decode cX8_end 14 = .ok (.iconst (-1), 1) := by decide +kernel
theorem dX8_end_15 : decode cX8_end 15 = .ok (.ireturn, 1) := by decide +kernel
theorem dX8_end_16 : decode cX8_end 16 = .ok (.aload_n 0, 1) := by decide +kernel
theorem dX8_end_17 : decode cX8_end 17 = .ok (.getfield 75, 3) := by decide +kernel
theorem dX8_end_20 : decode cX8_end 20 = .ok (.istore_n 2, 1) := by decide +kernel
theorem dX8_end_21 : decode cX8_end 21 = .ok (.aload_n 0, 1) := by decide +kernel
theorem dX8_end_22 : decode cX8_end 22 = .ok (.iload_n 1, 1) := by decide +kernel
theorem dX8_end_23 : decode cX8_end 23 = .ok (.putfield 75, 3) := by decide +kernel
theorem dX8_end_26 : decode cX8_end 26 = .ok (.iload_n 2, 1) := by decide +kernel
theorem dX8_end_27 : decode cX8_end 27 = .ok (.ireturn, 1) := by decide +kernel
theorem dX8_byteAt_0 : decode cX8_byteAt 0 = .ok (.iload_n 1, 1) := by decide +kernel
theorem dX8_byteAt_1 : decode cX8_byteAt 1 = .ok (.aload_n 0, 1) := by decide +kernel
theorem dX8_byteAt_2 : decode cX8_byteAt 2 = .ok (.getfield 75, 3) := by decide +kernel
theorem dX8_byteAt_5 : decode cX8_byteAt 5 = .ok (.if_icmp .ge 12, 3) := by decide +kernel
theorem dX8_byteAt_8 : decode cX8_byteAt 8 = .ok (.aload_n 0, 1) := by decide +kernel
theorem dX8_byteAt_9 : decode cX8_byteAt 9 = .ok (.getfield 34, 3) := by decide +kernel
theorem dX8_byteAt_12 : decode cX8_byteAt 12 = .ok (.iload_n 1, 1) := by decide +kernel
theorem dX8_byteAt_13 : decode cX8_byteAt 13 = .ok (.iaload, 1) := by decide +kernel
theorem dX8_byteAt_14 : decode cX8_byteAt 14 = .ok (.goto 5, 3) := by decide +kernel
theorem dX8_byteAt_17 : decode cX8_byteAt 17 = .ok (.bipush (-4), 2) := by decide +kernel
theorem dX8_byteAt_19 : decode cX8_byteAt 19 = .ok (.ireturn, 1) := by decide +kernel
theorem dX8_fails_0 : decode cX8_fails 0 = .ok (.aload_n 0, 1) := by decide +kernel
theorem dX8_fails_1 : decode cX8_fails 1 = .ok (.getfield 83, 3) := by decide +kernel
theorem dX8_fails_4 : decode cX8_fails 4 = .ok (.ifCond .ne 16, 3) := by decide +kernel
theorem dX8_fails_7 : decode cX8_fails 7 = .ok (.aload_n 0, 1) := by decide +kernel
theorem dX8_fails_8 : decode cX8_fails 8 = .ok (.iload_n 1, 1) := by decide +kernel
theorem dX8_fails_9 : decode cX8_fails 9 = .ok (.putfield 83, 3) := by decide +kernel
theorem dX8_fails_12 : decode cX8_fails 12 = .ok (.aload_n 0, 1) := by decide +kernel
theorem dX8_fails_13 : decode cX8_fails 13 = .ok (.aload_n 0, 1) := by decide +kernel
theorem dX8_fails_14 : decode cX8_fails 14 = .ok (.getfield 86, 3) := by decide +kernel
theorem dX8_fails_17 : decode cX8_fails 17 = .ok (.putfield 89, 3) := by decide +kernel
theorem dX8_fails_20 : decode cX8_fails 20 = .ok (.return_, 1) := by decide +kernel
theorem dX8_nameHere_0 : decode cX8_nameHere 0 = .ok (.iconst 0, 1) := by decide +kernel
theorem dX8_nameHere_1 : decode cX8_nameHere 1 = .ok (.istore_n 1, 1) := by decide +kernel
theorem dX8_nameHere_2 : decode cX8_nameHere 2 = .ok (.iload_n 1, 1) := by decide +kernel
theorem dX8_nameHere_3 : decode cX8_nameHere 3 = .ok (.bipush 7, 2) := by decide +kernel
theorem dX8_nameHere_5 : decode cX8_nameHere 5 = .ok (.if_icmp .ge 113, 3) := by decide +kernel
theorem dX8_nameHere_8 : decode cX8_nameHere 8 = .ok (.aload_n 0, 1) := by decide +kernel
theorem dX8_nameHere_9 : decode cX8_nameHere 9 = .ok (.getfield 92, 3) := by decide +kernel
theorem dX8_nameHere_12 : decode cX8_nameHere 12 = .ok (.iconst 1, 1) := by decide +kernel
theorem dX8_nameHere_13 : decode cX8_nameHere 13 = .ok (.if_icmp .ne 105, 3) := by decide +kernel
theorem dX8_nameHere_16 : decode cX8_nameHere 16 = .ok (.aload_n 0, 1) := by decide +kernel
theorem dX8_nameHere_17 : decode cX8_nameHere 17 = .ok (.getfield 95, 3) := by decide +kernel
theorem dX8_nameHere_20 : decode cX8_nameHere 20 = .ok (.aload_n 0, 1) := by decide +kernel
theorem dX8_nameHere_21 : decode cX8_nameHere 21 = .ok (.getfield 86, 3) := by decide +kernel
theorem dX8_nameHere_24 : decode cX8_nameHere 24 = .ok (.isub, 1) := by decide +kernel
theorem dX8_nameHere_25 : decode cX8_nameHere 25 = .ok (.aload_n 0, 1) := by decide +kernel
theorem dX8_nameHere_26 : decode cX8_nameHere 26 = .ok (.getfield 37, 3) := by decide +kernel
theorem dX8_nameHere_29 : decode cX8_nameHere 29 = .ok (.iload_n 1, 1) := by decide +kernel
theorem dX8_nameHere_30 : decode cX8_nameHere 30 = .ok (.iconst 1, 1) := by decide +kernel
theorem dX8_nameHere_31 : decode cX8_nameHere 31 = .ok (.iadd, 1) := by decide +kernel
theorem dX8_nameHere_32 : decode cX8_nameHere 32 = .ok (.iaload, 1) := by decide +kernel
theorem dX8_nameHere_33 : decode cX8_nameHere 33 = .ok (.aload_n 0, 1) := by decide +kernel
theorem dX8_nameHere_34 : decode cX8_nameHere 34 = .ok (.getfield 37, 3) := by decide +kernel
theorem dX8_nameHere_37 : decode cX8_nameHere 37 = .ok (.iload_n 1, 1) := by decide +kernel
theorem dX8_nameHere_38 : decode cX8_nameHere 38 = .ok (.iaload, 1) := by decide +kernel
theorem dX8_nameHere_39 : decode cX8_nameHere 39 = .ok (.isub, 1) := by decide +kernel
theorem dX8_nameHere_40 : decode cX8_nameHere 40 = .ok (.if_icmp .ne 7, 3) := by decide +kernel
theorem dX8_nameHere_43 : decode cX8_nameHere 43 = .ok (.iconst 1, 1) := by decide +kernel
theorem dX8_nameHere_44 : decode cX8_nameHere 44 = .ok (.goto 4, 3) := by decide +kernel
theorem dX8_nameHere_47 : decode cX8_nameHere 47 = .ok (.iconst 0, 1) := by decide +kernel
theorem dX8_nameHere_48 : decode cX8_nameHere 48 = .ok (.istore_n 2, 1) := by decide +kernel
theorem dX8_nameHere_49 : decode cX8_nameHere 49 = .ok (.iconst 0, 1) := by decide +kernel
theorem dX8_nameHere_50 : decode cX8_nameHere 50 = .ok (.istore_n 3, 1) := by decide +kernel
theorem dX8_nameHere_51 : decode cX8_nameHere 51 = .ok (.iload_n 2, 1) := by decide +kernel
theorem dX8_nameHere_52 : decode cX8_nameHere 52 = .ok (.ifCond .eq 54, 3) := by decide +kernel
theorem dX8_nameHere_55 : decode cX8_nameHere 55 = .ok (.iload_n 3, 1) := by decide +kernel
theorem dX8_nameHere_56 : decode cX8_nameHere 56 = .ok (.aload_n 0, 1) := by decide +kernel
theorem dX8_nameHere_57 : decode cX8_nameHere 57 = .ok (.getfield 95, 3) := by decide +kernel
theorem dX8_nameHere_60 : decode cX8_nameHere 60 = .ok (.aload_n 0, 1) := by decide +kernel
theorem dX8_nameHere_61 : decode cX8_nameHere 61 = .ok (.getfield 86, 3) := by decide +kernel
theorem dX8_nameHere_64 : decode cX8_nameHere 64 = .ok (.isub, 1) := by decide +kernel
theorem dX8_nameHere_65 : decode cX8_nameHere 65 = .ok (.if_icmp .ge 41, 3) := by decide +kernel
theorem dX8_nameHere_68 : decode cX8_nameHere 68 = .ok (.aload_n 0, 1) := by decide +kernel
theorem dX8_nameHere_69 : decode cX8_nameHere 69 = .ok (.aload_n 0, 1) := by decide +kernel
theorem dX8_nameHere_70 : decode cX8_nameHere 70 = .ok (.getfield 86, 3) := by decide +kernel
theorem dX8_nameHere_73 : decode cX8_nameHere 73 = .ok (.iload_n 3, 1) := by decide +kernel
theorem dX8_nameHere_74 : decode cX8_nameHere 74 = .ok (.iadd, 1) := by decide +kernel
theorem dX8_nameHere_75 : decode cX8_nameHere 75 = .ok (.invokevirtual 98, 3) := by decide +kernel
theorem dX8_nameHere_78 : decode cX8_nameHere 78 = .ok (.aload_n 0, 1) := by decide +kernel
theorem dX8_nameHere_79 : decode cX8_nameHere 79 = .ok (.getfield 40, 3) := by decide +kernel
theorem dX8_nameHere_82 : decode cX8_nameHere 82 = .ok (.aload_n 0, 1) := by decide +kernel
theorem dX8_nameHere_83 : decode cX8_nameHere 83 = .ok (.getfield 37, 3) := by decide +kernel
theorem dX8_nameHere_86 : decode cX8_nameHere 86 = .ok (.iload_n 1, 1) := by decide +kernel
theorem dX8_nameHere_87 : decode cX8_nameHere 87 = .ok (.iaload, 1) := by decide +kernel
theorem dX8_nameHere_88 : decode cX8_nameHere 88 = .ok (.iload_n 3, 1) := by decide +kernel
theorem dX8_nameHere_89 : decode cX8_nameHere 89 = .ok (.iadd, 1) := by decide +kernel
theorem dX8_nameHere_90 : decode cX8_nameHere 90 = .ok (.iaload, 1) := by decide +kernel
theorem dX8_nameHere_91 : decode cX8_nameHere 91 = .ok (.if_icmp .ne 7, 3) := by decide +kernel
theorem dX8_nameHere_94 : decode cX8_nameHere 94 = .ok (.iconst 1, 1) := by decide +kernel
theorem dX8_nameHere_95 : decode cX8_nameHere 95 = .ok (.goto 4, 3) := by decide +kernel
theorem dX8_nameHere_98 : decode cX8_nameHere 98 = .ok (.iconst 0, 1) := by decide +kernel
theorem dX8_nameHere_99 : decode cX8_nameHere 99 = .ok (.istore_n 2, 1) := by decide +kernel
theorem dX8_nameHere_100 : decode cX8_nameHere 100 = .ok (.iinc 3 1, 3) := by decide +kernel
theorem dX8_nameHere_103 : decode cX8_nameHere 103 = .ok (.goto (-52), 3) := by decide +kernel
theorem dX8_nameHere_106 : decode cX8_nameHere 106 = .ok (.iload_n 2, 1) := by decide +kernel
theorem dX8_nameHere_107 : decode cX8_nameHere 107 = .ok (.ifCond .eq 5, 3) := by decide +kernel
theorem dX8_nameHere_110 : decode cX8_nameHere 110 = .ok (.iload_n 1, 1) := by decide +kernel
theorem dX8_nameHere_111 : decode cX8_nameHere 111 = .ok (.ireturn, 1) := by decide +kernel
theorem dX8_nameHere_112 : decode cX8_nameHere 112 = .ok (.iinc 1 1, 3) := by decide +kernel
theorem dX8_nameHere_115 : decode cX8_nameHere 115 = .ok (.goto (-113), 3) := by decide +kernel
theorem dX8_nameHere_118 : decode cX8_nameHere 118 = .ok (.bipush (-4), 2) := by decide +kernel
theorem dX8_nameHere_120 : decode cX8_nameHere 120 = .ok (.ireturn, 1) := by decide +kernel
theorem dX8_step_0 : decode cX8_step 0 = .ok (.aload_n 0, 1) := by decide +kernel
theorem dX8_step_1 : decode cX8_step 1 = .ok (.getfield 83, 3) := by decide +kernel
theorem dX8_step_4 : decode cX8_step 4 = .ok (.ifCond .le 4, 3) := by decide +kernel
theorem dX8_step_7 : decode cX8_step 7 = .ok (.return_, 1) := by decide +kernel
theorem dX8_step_8 : decode cX8_step 8 = .ok (.aload_n 0, 1) := by decide +kernel
theorem dX8_step_9 : decode cX8_step 9 = .ok (.aload_n 0, 1) := by decide +kernel
theorem dX8_step_10 : decode cX8_step 10 = .ok (.getfield 95, 3) := by decide +kernel
theorem dX8_step_13 : decode cX8_step 13 = .ok (.invokevirtual 98, 3) := by decide +kernel
theorem dX8_step_16 : decode cX8_step 16 = .ok (.bipush 32, 2) := by decide +kernel
theorem dX8_step_18 : decode cX8_step 18 = .ok (.if_icmp .ne 16, 3) := by decide +kernel
theorem dX8_step_21 : decode cX8_step 21 = .ok (.aload_n 0, 1) := by decide +kernel
theorem dX8_step_22 : decode cX8_step 22 = .ok (.dup, 1) := by decide +kernel
theorem dX8_step_23 : decode cX8_step 23 = .ok (.getfield 95, 3) := by decide +kernel
theorem dX8_step_26 : decode cX8_step 26 = .ok (.iconst 1, 1) := by decide +kernel
theorem dX8_step_27 : decode cX8_step 27 = .ok (.iadd, 1) := by decide +kernel
theorem dX8_step_28 : decode cX8_step 28 = .ok (.putfield 95, 3) := by decide +kernel
theorem dX8_step_31 : decode cX8_step 31 = .ok (.goto (-23), 3) := by decide +kernel
theorem dX8_step_34 : decode cX8_step 34 = .ok (.aload_n 0, 1) := by decide +kernel
theorem dX8_step_35 : decode cX8_step 35 = .ok (.aload_n 0, 1) := by decide +kernel
theorem dX8_step_36 : decode cX8_step 36 = .ok (.getfield 95, 3) := by decide +kernel
theorem dX8_step_39 : decode cX8_step 39 = .ok (.putfield 86, 3) := by decide +kernel
theorem dX8_step_42 : decode cX8_step 42 = .ok (.aload_n 0, 1) := by decide +kernel
theorem dX8_step_43 : decode cX8_step 43 = .ok (.aload_n 0, 1) := by decide +kernel
theorem dX8_step_44 : decode cX8_step 44 = .ok (.getfield 95, 3) := by decide +kernel
theorem dX8_step_47 : decode cX8_step 47 = .ok (.invokevirtual 98, 3) := by decide +kernel
theorem dX8_step_50 : decode cX8_step 50 = .ok (.istore_n 1, 1) := by decide +kernel
theorem dX8_step_51 : decode cX8_step 51 = .ok (.aload_n 0, 1) := by decide +kernel
theorem dX8_step_52 : decode cX8_step 52 = .ok (.iconst 0, 1) := by decide +kernel
theorem dX8_step_53 : decode cX8_step 53 = .ok (.putfield 102, 3) := by decide +kernel
theorem dX8_step_56 : decode cX8_step 56 = .ok (.iload_n 1, 1) := by decide +kernel
theorem dX8_step_57 : decode cX8_step 57 = .ok (.bipush (-4), 2) := by decide +kernel
theorem dX8_step_59 : decode cX8_step 59 = .ok (.if_icmp .ne 11, 3) := by decide +kernel
theorem dX8_step_62 : decode cX8_step 62 = .ok (.aload_n 0, 1) := by decide +kernel
theorem dX8_step_63 : decode cX8_step 63 = .ok (.iconst 0, 1) := by decide +kernel
theorem dX8_step_64 : decode cX8_step 64 = .ok (.putfield 92, 3) := by decide +kernel
theorem dX8_step_67 : decode cX8_step 67 = .ok (.goto 202, 3) := by decide +kernel
theorem dX8_step_70 : decode cX8_step 70 = .ok (.iload_n 1, 1) := by decide +kernel
theorem dX8_step_71 : decode cX8_step 71 = .ok (.i2l, 1) := by decide +kernel
theorem dX8_step_72 : decode cX8_step 72 = .ok (.ldc2_w 105, 3) := by decide +kernel
theorem dX8_step_75 : decode cX8_step 75 = .ok (.ldc2_w 107, 3) := by decide +kernel
theorem dX8_step_78 : decode cX8_step 78 = .ok (.invokestatic 79, 3) := by decide +kernel
theorem dX8_step_81 : decode cX8_step 81 = .ok (.ifCond .eq 45, 3) := by decide +kernel
theorem dX8_step_84 : decode cX8_step 84 = .ok (.aload_n 0, 1) := by decide +kernel
theorem dX8_step_85 : decode cX8_step 85 = .ok (.aload_n 0, 1) := by decide +kernel
theorem dX8_step_86 : decode cX8_step 86 = .ok (.getfield 95, 3) := by decide +kernel
theorem dX8_step_89 : decode cX8_step 89 = .ok (.invokevirtual 98, 3) := by decide +kernel
theorem dX8_step_92 : decode cX8_step 92 = .ok (.i2l, 1) := by decide +kernel
theorem dX8_step_93 : decode cX8_step 93 = .ok (.ldc2_w 105, 3) := by decide +kernel
theorem dX8_step_96 : decode cX8_step 96 = .ok (.ldc2_w 107, 3) := by decide +kernel
theorem dX8_step_99 : decode cX8_step 99 = .ok (.invokestatic 79, 3) := by decide +kernel
theorem dX8_step_102 : decode cX8_step 102 = .ok (.ifCond .eq 16, 3) := by decide +kernel
theorem dX8_step_105 : decode cX8_step 105 = .ok (.aload_n 0, 1) := by decide +kernel
theorem dX8_step_106 : decode cX8_step 106 = .ok (.dup, 1) := by decide +kernel
theorem dX8_step_107 : decode cX8_step 107 = .ok (.getfield 95, 3) := by decide +kernel
theorem dX8_step_110 : decode cX8_step 110 = .ok (.iconst 1, 1) := by decide +kernel
theorem dX8_step_111 : decode cX8_step 111 = .ok (.iadd, 1) := by decide +kernel
theorem dX8_step_112 : decode cX8_step 112 = .ok (.putfield 95, 3) := by decide +kernel
theorem dX8_step_115 : decode cX8_step 115 = .ok (.goto (-31), 3) := by decide +kernel
theorem dX8_step_118 : decode cX8_step 118 = .ok (.aload_n 0, 1) := by decide +kernel
theorem dX8_step_119 : decode cX8_step 119 = .ok (.iconst 1, 1) := by decide +kernel
theorem dX8_step_120 : decode cX8_step 120 = .ok (.putfield 92, 3) := by decide +kernel
theorem dX8_step_123 : decode cX8_step 123 = .ok (.goto 146, 3) := by decide +kernel
theorem dX8_step_126 : decode cX8_step 126 = .ok (.iload_n 1, 1) := by decide +kernel
theorem dX8_step_127 : decode cX8_step 127 = .ok (.i2l, 1) := by decide +kernel
theorem dX8_step_128 : decode cX8_step 128 = .ok (.ldc2_w 109, 3) := by decide +kernel
theorem dX8_step_131 : decode cX8_step 131 = .ok (.ldc2_w 111, 3) := by decide +kernel
theorem dX8_step_134 : decode cX8_step 134 = .ok (.invokestatic 79, 3) := by decide +kernel
theorem dX8_step_137 : decode cX8_step 137 = .ok (.ifCond .eq 106, 3) := by decide +kernel
theorem dX8_step_140 : decode cX8_step 140 = .ok (.aload_n 0, 1) := by decide +kernel
theorem dX8_step_141 : decode cX8_step 141 = .ok (.aload_n 0, 1) := by decide +kernel
theorem dX8_step_142 : decode cX8_step 142 = .ok (.getfield 95, 3) := by decide +kernel
theorem dX8_step_145 : decode cX8_step 145 = .ok (.invokevirtual 98, 3) := by decide +kernel
theorem dX8_step_148 : decode cX8_step 148 = .ok (.i2l, 1) := by decide +kernel
theorem dX8_step_149 : decode cX8_step 149 = .ok (.ldc2_w 109, 3) := by decide +kernel
theorem dX8_step_152 : decode cX8_step 152 = .ok (.ldc2_w 111, 3) := by decide +kernel
theorem dX8_step_155 : decode cX8_step 155 = .ok (.invokestatic 79, 3) := by decide +kernel
theorem dX8_step_158 : decode cX8_step 158 = .ok (.ifCond .eq 59, 3) := by decide +kernel
theorem dX8_step_161 : decode cX8_step 161 = .ok (.aload_n 0, 1) := by decide +kernel
theorem dX8_step_162 : decode cX8_step 162 = .ok (.aload_n 0, 1) := by decide +kernel
theorem dX8_step_163 : decode cX8_step 163 = .ok (.getfield 95, 3) := by decide +kernel
theorem dX8_step_166 : decode cX8_step 166 = .ok (.aload_n 0, 1) := by decide +kernel
theorem dX8_step_167 : decode cX8_step 167 = .ok (.getfield 86, 3) := by decide +kernel
theorem dX8_step_170 : decode cX8_step 170 = .ok (.isub, 1) := by decide +kernel
theorem dX8_step_171 : decode cX8_step 171 = .ok (.iconst 3, 1) := by decide +kernel
theorem dX8_step_172 : decode cX8_step 172 = .ok (.if_icmp .ge 25, 3) := by decide +kernel
theorem dX8_step_175 : decode cX8_step 175 = .ok (.bipush 10, 2) := by decide +kernel
theorem dX8_step_177 : decode cX8_step 177 = .ok (.aload_n 0, 1) := by decide +kernel
theorem dX8_step_178 : decode cX8_step 178 = .ok (.getfield 102, 3) := by decide +kernel
theorem dX8_step_181 : decode cX8_step 181 = .ok (.imul, 1) := by decide +kernel
theorem dX8_step_182 : decode cX8_step 182 = .ok (.aload_n 0, 1) := by decide +kernel
theorem dX8_step_183 : decode cX8_step 183 = .ok (.aload_n 0, 1) := by decide +kernel
theorem dX8_step_184 : decode cX8_step 184 = .ok (.getfield 95, 3) := by decide +kernel
theorem dX8_step_187 : decode cX8_step 187 = .ok (.invokevirtual 98, 3) := by decide +kernel
theorem dX8_step_190 : decode cX8_step 190 = .ok (.iadd, 1) := by decide +kernel
theorem dX8_step_191 : decode cX8_step 191 = .ok (.bipush 48, 2) := by decide +kernel
theorem dX8_step_193 : decode cX8_step 193 = .ok (.isub, 1) := by decide +kernel
theorem dX8_step_194 : decode cX8_step 194 = .ok (.goto 7, 3) := by decide +kernel
theorem dX8_step_197 : decode cX8_step 197 = .ok (.aload_n 0, 1) := by decide +kernel
theorem dX8_step_198 : decode cX8_step 198 = .ok (.getfield 102, 3) := by decide +kernel
theorem dX8_step_201 : decode cX8_step 201 = .ok (.putfield 102, 3) := by decide +kernel
theorem dX8_step_204 : decode cX8_step 204 = .ok (.aload_n 0, 1) := by decide +kernel
theorem dX8_step_205 : decode cX8_step 205 = .ok (.dup, 1) := by decide +kernel
theorem dX8_step_206 : decode cX8_step 206 = .ok (.getfield 95, 3) := by decide +kernel
theorem dX8_step_209 : decode cX8_step 209 = .ok (.iconst 1, 1) := by decide +kernel
theorem dX8_step_210 : decode cX8_step 210 = .ok (.iadd, 1) := by decide +kernel
theorem dX8_step_211 : decode cX8_step 211 = .ok (.putfield 95, 3) := by decide +kernel
theorem dX8_step_214 : decode cX8_step 214 = .ok (.goto (-74), 3) := by decide +kernel
theorem dX8_step_217 : decode cX8_step 217 = .ok (.aload_n 0, 1) := by decide +kernel
theorem dX8_step_218 : decode cX8_step 218 = .ok (.iconst 2, 1) := by decide +kernel
theorem dX8_step_219 : decode cX8_step 219 = .ok (.putfield 92, 3) := by decide +kernel
theorem dX8_step_222 : decode cX8_step 222 = .ok (.aload_n 0, 1) := by decide +kernel
theorem dX8_step_223 : decode cX8_step 223 = .ok (.getfield 95, 3) := by decide +kernel
theorem dX8_step_226 : decode cX8_step 226 = .ok (.aload_n 0, 1) := by decide +kernel
theorem dX8_step_227 : decode cX8_step 227 = .ok (.getfield 86, 3) := by decide +kernel
theorem dX8_step_230 : decode cX8_step 230 = .ok (.isub, 1) := by decide +kernel
theorem dX8_step_231 : decode cX8_step 231 = .ok (.iconst 3, 1) := by decide +kernel
theorem dX8_step_232 : decode cX8_step 232 = .ok (.if_icmp .le 37, 3) := by decide +kernel
theorem dX8_step_235 : decode cX8_step 235 = .ok (.aload_n 0, 1) := by decide +kernel
theorem dX8_step_236 : decode cX8_step 236 = .ok (.iconst 1, 1) := by decide +kernel
theorem dX8_step_237 : decode cX8_step 237 = .ok (.invokevirtual 113, 3) := by decide +kernel
theorem dX8_step_240 : decode cX8_step 240 = .ok (.goto 29, 3) := by decide +kernel
theorem dX8_step_243 : decode cX8_step 243 = .ok (.aload_n 0, 1) := by decide +kernel
theorem dX8_step_244 : decode cX8_step 244 = .ok (.iconst 3, 1) := by decide +kernel
theorem dX8_step_245 : decode cX8_step 245 = .ok (.putfield 92, 3) := by decide +kernel
theorem dX8_step_248 : decode cX8_step 248 = .ok (.aload_n 0, 1) := by decide +kernel
theorem dX8_step_249 : decode cX8_step 249 = .ok (.dup, 1) := by decide +kernel
theorem dX8_step_250 : decode cX8_step 250 = .ok (.getfield 95, 3) := by decide +kernel
theorem dX8_step_253 : decode cX8_step 253 = .ok (.iconst 1, 1) := by decide +kernel
theorem dX8_step_254 : decode cX8_step 254 = .ok (.iadd, 1) := by decide +kernel
theorem dX8_step_255 : decode cX8_step 255 = .ok (.putfield 95, 3) := by decide +kernel
theorem dX8_step_258 : decode cX8_step 258 = .ok (.iload_n 1, 1) := by decide +kernel
theorem dX8_step_259 : decode cX8_step 259 = .ok (.bipush 59, 2) := by decide +kernel
theorem dX8_step_261 : decode cX8_step 261 = .ok (.if_icmp .eq 8, 3) := by decide +kernel
theorem dX8_step_264 : decode cX8_step 264 = .ok (.aload_n 0, 1) := by decide +kernel
theorem dX8_step_265 : decode cX8_step 265 = .ok (.iconst 1, 1) := by decide +kernel
theorem dX8_step_266 : decode cX8_step 266 = .ok (.invokevirtual 113, 3) := by decide +kernel
theorem dX8_step_269 : decode cX8_step 269 = .ok (.return_, 1) := by decide +kernel
theorem dX8_number_0 : decode cX8_number 0 = .ok (.aload_n 0, 1) := by decide +kernel
theorem dX8_number_1 : decode cX8_number 1 = .ok (.getfield 83, 3) := by decide +kernel
theorem dX8_number_4 : decode cX8_number 4 = .ok (.ifCond .ne 16, 3) := by decide +kernel
theorem dX8_number_7 : decode cX8_number 7 = .ok (.aload_n 0, 1) := by decide +kernel
theorem dX8_number_8 : decode cX8_number 8 = .ok (.getfield 92, 3) := by decide +kernel
theorem dX8_number_11 : decode cX8_number 11 = .ok (.iconst 2, 1) := by decide +kernel
theorem dX8_number_12 : decode cX8_number 12 = .ok (.if_icmp .eq 8, 3) := by decide +kernel
theorem dX8_number_15 : decode cX8_number 15 = .ok (.aload_n 0, 1) := by decide +kernel
theorem dX8_number_16 : decode cX8_number 16 = .ok (.iconst 2, 1) := by decide +kernel
theorem dX8_number_17 : decode cX8_number 17 = .ok (.invokevirtual 113, 3) := by decide +kernel
theorem dX8_number_20 : decode cX8_number 20 = .ok (.aload_n 0, 1) := by decide +kernel
theorem dX8_number_21 : decode cX8_number 21 = .ok (.getfield 83, 3) := by decide +kernel
theorem dX8_number_24 : decode cX8_number 24 = .ok (.ifCond .ne 23, 3) := by decide +kernel
theorem dX8_number_27 : decode cX8_number 27 = .ok (.aload_n 0, 1) := by decide +kernel
theorem dX8_number_28 : decode cX8_number 28 = .ok (.getfield 102, 3) := by decide +kernel
theorem dX8_number_31 : decode cX8_number 31 = .ok (.i2l, 1) := by decide +kernel
theorem dX8_number_32 : decode cX8_number 32 = .ok (.iload_n 1, 1) := by decide +kernel
theorem dX8_number_33 : decode cX8_number 33 = .ok (.i2l, 1) := by decide +kernel
theorem dX8_number_34 : decode cX8_number 34 = .ok (.iload_n 2, 1) := by decide +kernel
theorem dX8_number_35 : decode cX8_number 35 = .ok (.i2l, 1) := by decide +kernel
theorem dX8_number_36 : decode cX8_number 36 = .ok (.invokestatic 79, 3) := by decide +kernel
theorem dX8_number_39 : decode cX8_number 39 = .ok (.ifCond .ne 8, 3) := by decide +kernel
theorem dX8_number_42 : decode cX8_number 42 = .ok (.aload_n 0, 1) := by decide +kernel
theorem dX8_number_43 : decode cX8_number 43 = .ok (.iconst 3, 1) := by decide +kernel
theorem dX8_number_44 : decode cX8_number 44 = .ok (.invokevirtual 113, 3) := by decide +kernel
theorem dX8_number_47 : decode cX8_number 47 = .ok (.aload_n 0, 1) := by decide +kernel
theorem dX8_number_48 : decode cX8_number 48 = .ok (.getfield 83, 3) := by decide +kernel
theorem dX8_number_51 : decode cX8_number 51 = .ok (.ifCond .ne 10, 3) := by decide +kernel
theorem dX8_number_54 : decode cX8_number 54 = .ok (.aload_n 0, 1) := by decide +kernel
theorem dX8_number_55 : decode cX8_number 55 = .ok (.getfield 102, 3) := by decide +kernel
theorem dX8_number_58 : decode cX8_number 58 = .ok (.goto 4, 3) := by decide +kernel
theorem dX8_number_61 : decode cX8_number 61 = .ok (.iload_n 1, 1) := by decide +kernel
theorem dX8_number_62 : decode cX8_number 62 = .ok (.istore_n 3, 1) := by decide +kernel
theorem dX8_number_63 : decode cX8_number 63 = .ok (.aload_n 0, 1) := by decide +kernel
theorem dX8_number_64 : decode cX8_number 64 = .ok (.invokevirtual 117, 3) := by decide +kernel
theorem dX8_number_67 : decode cX8_number 67 = .ok (.iload_n 3, 1) := by decide +kernel
theorem dX8_number_68 : decode cX8_number 68 = .ok (.ireturn, 1) := by decide +kernel
theorem dX8_readCell_0 : decode cX8_readCell 0 = .ok (.aload_n 0, 1) := by decide +kernel
theorem dX8_readCell_1 : decode cX8_readCell 1 = .ok (.iconst 0, 1) := by decide +kernel
theorem dX8_readCell_2 : decode cX8_readCell 2 = .ok (.bipush 8, 2) := by decide +kernel
theorem dX8_readCell_4 : decode cX8_readCell 4 = .ok (.invokevirtual 120, 3) := by decide +kernel
theorem dX8_readCell_7 : decode cX8_readCell 7 = .ok (.istore_n 3, 1) := by decide +kernel
theorem dX8_readCell_8 : decode cX8_readCell 8 = .ok (.aload_n 0, 1) := by decide +kernel
theorem dX8_readCell_9 : decode cX8_readCell 9 = .ok (.iconst 0, 1) := by decide +kernel
theorem dX8_readCell_10 : decode cX8_readCell 10 = .ok (.bipush 8, 2) := by decide +kernel
theorem dX8_readCell_12 : decode cX8_readCell 12 = .ok (.invokevirtual 120, 3) := by decide +kernel
theorem dX8_readCell_15 : decode cX8_readCell 15 = .ok (.istore 4, 2) := by decide +kernel
theorem dX8_readCell_17 : decode cX8_readCell 17 = .ok (.aload_n 0, 1) := by decide +kernel
theorem dX8_readCell_18 : decode cX8_readCell 18 = .ok (.iload_n 3, 1) := by decide +kernel
theorem dX8_readCell_19 : decode cX8_readCell 19 = .ok (.aload_n 0, 1) := by decide +kernel
theorem dX8_readCell_20 : decode cX8_readCell 20 = .ok (.getfield 124, 3) := by decide +kernel
theorem dX8_readCell_23 : decode cX8_readCell 23 = .ok (.if_icmp .le 7, 3) := by decide +kernel
theorem dX8_readCell_26 : decode cX8_readCell 26 = .ok (.iload_n 3, 1) := by decide +kernel
theorem dX8_readCell_27 : decode cX8_readCell 27 = .ok (.goto 7, 3) := by decide +kernel
theorem dX8_readCell_30 : decode cX8_readCell 30 = .ok (.aload_n 0, 1) := by decide +kernel
theorem dX8_readCell_31 : decode cX8_readCell 31 = .ok (.getfield 124, 3) := by decide +kernel
theorem dX8_readCell_34 : decode cX8_readCell 34 = .ok (.putfield 124, 3) := by decide +kernel
theorem dX8_readCell_37 : decode cX8_readCell 37 = .ok (.aload_n 0, 1) := by decide +kernel
theorem dX8_readCell_38 : decode cX8_readCell 38 = .ok (.iload 4, 2) := by decide +kernel
theorem dX8_readCell_40 : decode cX8_readCell 40 = .ok (.aload_n 0, 1) := by decide +kernel
theorem dX8_readCell_41 : decode cX8_readCell 41 = .ok (.getfield 127, 3) := by decide +kernel
theorem dX8_readCell_44 : decode cX8_readCell 44 = .ok (.if_icmp .le 8, 3) := by decide +kernel
theorem dX8_readCell_47 : decode cX8_readCell 47 = .ok (.iload 4, 2) := by decide +kernel
theorem dX8_readCell_49 : decode cX8_readCell 49 = .ok (.goto 7, 3) := by decide +kernel
theorem dX8_readCell_52 : decode cX8_readCell 52 = .ok (.aload_n 0, 1) := by decide +kernel
theorem dX8_readCell_53 : decode cX8_readCell 53 = .ok (.getfield 127, 3) := by decide +kernel
theorem dX8_readCell_56 : decode cX8_readCell 56 = .ok (.putfield 127, 3) := by decide +kernel
theorem dX8_readCell_59 : decode cX8_readCell 59 = .ok (.iload_n 1, 1) := by decide +kernel
theorem dX8_readCell_60 : decode cX8_readCell 60 = .ok (.ifCond .eq 19, 3) := by decide +kernel
theorem dX8_readCell_63 : decode cX8_readCell 63 = .ok (.aload_n 0, 1) := by decide +kernel
theorem dX8_readCell_64 : decode cX8_readCell 64 = .ok (.getfield 25, 3) := by decide +kernel
theorem dX8_readCell_67 : decode cX8_readCell 67 = .ok (.iload_n 2, 1) := by decide +kernel
theorem dX8_readCell_68 : decode cX8_readCell 68 = .ok (.bipush 9, 2) := by decide +kernel
theorem dX8_readCell_70 : decode cX8_readCell 70 = .ok (.iload 4, 2) := by decide +kernel
theorem dX8_readCell_72 : decode cX8_readCell 72 = .ok (.imul, 1) := by decide +kernel
theorem dX8_readCell_73 : decode cX8_readCell 73 = .ok (.iload_n 3, 1) := by decide +kernel
theorem dX8_readCell_74 : decode cX8_readCell 74 = .ok (.iadd, 1) := by decide +kernel
theorem dX8_readCell_75 : decode cX8_readCell 75 = .ok (.iastore, 1) := by decide +kernel
theorem dX8_readCell_76 : decode cX8_readCell 76 = .ok (.goto 16, 3) := by decide +kernel
theorem dX8_readCell_79 : decode cX8_readCell 79 = .ok (.aload_n 0, 1) := by decide +kernel
theorem dX8_readCell_80 : decode cX8_readCell 80 = .ok (.getfield 28, 3) := by decide +kernel
theorem dX8_readCell_83 : decode cX8_readCell 83 = .ok (.iload_n 2, 1) := by decide +kernel
theorem dX8_readCell_84 : decode cX8_readCell 84 = .ok (.bipush 9, 2) := by decide +kernel
theorem dX8_readCell_86 : decode cX8_readCell 86 = .ok (.iload 4, 2) := by decide +kernel
theorem dX8_readCell_88 : decode cX8_readCell 88 = .ok (.imul, 1) := by decide +kernel
theorem dX8_readCell_89 : decode cX8_readCell 89 = .ok (.iload_n 3, 1) := by decide +kernel
theorem dX8_readCell_90 : decode cX8_readCell 90 = .ok (.iadd, 1) := by decide +kernel
theorem dX8_readCell_91 : decode cX8_readCell 91 = .ok (.iastore, 1) := by decide +kernel
theorem dX8_readCell_92 : decode cX8_readCell 92 = .ok (.return_, 1) := by decide +kernel
theorem dX8_readOnce_0 : decode cX8_readOnce 0 = .ok (.aload_n 0, 1) := by decide +kernel
theorem dX8_readOnce_1 : decode cX8_readOnce 1 = .ok (.getfield 130, 3) := by decide +kernel
theorem dX8_readOnce_4 : decode cX8_readOnce 4 = .ok (.iload_n 1, 1) := by decide +kernel
theorem dX8_readOnce_5 : decode cX8_readOnce 5 = .ok (.ishr, 1) := by decide +kernel
theorem dX8_readOnce_6 : decode cX8_readOnce 6 = .ok (.iconst 1, 1) := by decide +kernel
theorem dX8_readOnce_7 : decode cX8_readOnce 7 = .ok (.iand, 1) := by decide +kernel
theorem dX8_readOnce_8 : decode cX8_readOnce 8 = .ok (.iconst 1, 1) := by decide +kernel
theorem dX8_readOnce_9 : decode cX8_readOnce 9 = .ok (.if_icmp .ne 8, 3) := by decide +kernel
theorem dX8_readOnce_12 : decode cX8_readOnce 12 = .ok (.aload_n 0, 1) := by decide +kernel
theorem dX8_readOnce_13 : decode cX8_readOnce 13 = .ok (.iconst 4, 1) := by decide +kernel
theorem dX8_readOnce_14 : decode cX8_readOnce 14 = .ok (.invokevirtual 113, 3) := by decide +kernel
theorem dX8_readOnce_17 : decode cX8_readOnce 17 = .ok (.aload_n 0, 1) := by decide +kernel
theorem dX8_readOnce_18 : decode cX8_readOnce 18 = .ok (.dup, 1) := by decide +kernel
theorem dX8_readOnce_19 : decode cX8_readOnce 19 = .ok (.getfield 130, 3) := by decide +kernel
theorem dX8_readOnce_22 : decode cX8_readOnce 22 = .ok (.iconst 1, 1) := by decide +kernel
theorem dX8_readOnce_23 : decode cX8_readOnce 23 = .ok (.iload_n 1, 1) := by decide +kernel
theorem dX8_readOnce_24 : decode cX8_readOnce 24 = .ok (.ishl, 1) := by decide +kernel
theorem dX8_readOnce_25 : decode cX8_readOnce 25 = .ok (.ior, 1) := by decide +kernel
theorem dX8_readOnce_26 : decode cX8_readOnce 26 = .ok (.putfield 130, 3) := by decide +kernel
theorem dX8_readOnce_29 : decode cX8_readOnce 29 = .ok (.aload_n 0, 1) := by decide +kernel
theorem dX8_readOnce_30 : decode cX8_readOnce 30 = .ok (.invokevirtual 117, 3) := by decide +kernel
theorem dX8_readOnce_33 : decode cX8_readOnce 33 = .ok (.iload_n 1, 1) := by decide +kernel
theorem dX8_readOnce_34 : decode cX8_readOnce 34 = .ok (.ifCond .ne 32, 3) := by decide +kernel
theorem dX8_readOnce_37 : decode cX8_readOnce 37 = .ok (.aload_n 0, 1) := by decide +kernel
theorem dX8_readOnce_38 : decode cX8_readOnce 38 = .ok (.getfield 22, 3) := by decide +kernel
theorem dX8_readOnce_41 : decode cX8_readOnce 41 = .ok (.iconst 0, 1) := by decide +kernel
theorem dX8_readOnce_42 : decode cX8_readOnce 42 = .ok (.aload_n 0, 1) := by decide +kernel
theorem dX8_readOnce_43 : decode cX8_readOnce 43 = .ok (.iconst 1, 1) := by decide +kernel
theorem dX8_readOnce_44 : decode cX8_readOnce 44 = .ok (.bipush 9, 2) := by decide +kernel
theorem dX8_readOnce_46 : decode cX8_readOnce 46 = .ok (.invokevirtual 120, 3) := by decide +kernel
theorem dX8_readOnce_49 : decode cX8_readOnce 49 = .ok (.iastore, 1) := by decide +kernel
theorem dX8_readOnce_50 : decode cX8_readOnce 50 = .ok (.aload_n 0, 1) := by decide +kernel
theorem dX8_readOnce_51 : decode cX8_readOnce 51 = .ok (.getfield 22, 3) := by decide +kernel
theorem dX8_readOnce_54 : decode cX8_readOnce 54 = .ok (.iconst 1, 1) := by decide +kernel
theorem dX8_readOnce_55 : decode cX8_readOnce 55 = .ok (.aload_n 0, 1) := by decide +kernel
theorem dX8_readOnce_56 : decode cX8_readOnce 56 = .ok (.iconst 1, 1) := by decide +kernel
theorem dX8_readOnce_57 : decode cX8_readOnce 57 = .ok (.bipush 9, 2) := by decide +kernel
theorem dX8_readOnce_59 : decode cX8_readOnce 59 = .ok (.invokevirtual 120, 3) := by decide +kernel
theorem dX8_readOnce_62 : decode cX8_readOnce 62 = .ok (.iastore, 1) := by decide +kernel
theorem dX8_readOnce_63 : decode cX8_readOnce 63 = .ok (.goto 50, 3) := by decide +kernel

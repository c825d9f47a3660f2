theorem dX6_write_161 : decode cX6_write 161 = .ok (.iaload, 1) := by decide +kernel
theorem dX6_write_162 : decode cX6_write 162 = .ok (.invokevirtual 130, 3) := by decide +kernel
theorem dX6_write_165 : decode cX6_write 165 = .ok (.goto 19, 3) := by decide +kernel
theorem dX6_write_168 : decode cX6_write 168 = .ok (.aload_n 1, 1) := by decide +kernel
theorem dX6_write_169 : decode cX6_write 169 = .ok (.aload_n 0, 1) := by decide +kernel
theorem dX6_write_170 : decode cX6_write 170 = .ok (.getfield 11, 3) := by decide +kernel
theorem dX6_write_173 : decode cX6_write 173 = .ok (.iconst 0, 1) := by decide +kernel
theorem dX6_write_174 : decode cX6_write 174 = .ok (.iaload, 1) := by decide +kernel
theorem dX6_write_175 : decode cX6_write 175 = .ok (.aload_n 0, 1) := by decide +kernel
theorem dX6_write_176 : decode cX6_write 176 = .ok (.getfield 11, 3) := by decide +kernel
theorem dX6_write_179 : decode cX6_write 179 = .ok (.iconst 1, 1) := by decide +kernel
theorem dX6_write_180 : decode cX6_write 180 = .ok (.iaload, 1) := by decide +kernel
theorem dX6_write_181 : decode cX6_write 181 = .ok (.invokevirtual 134, 3) := by decide +kernel
theorem dX6_write_184 : decode cX6_write 184 = .ok (.return_, 1) := by decide +kernel
theorem dX7_init_0 : decode cX7_init 0 = .ok (.aload_n 0, 1) := by decide +kernel
theorem dX7_init_1 : decode cX7_init 1 = .ok (.invokespecial 1, 3) := by decide +kernel
theorem dX7_init_4 : decode cX7_init 4 = .ok (.aload_n 0, 1) := by decide +kernel
theorem dX7_init_5 : decode cX7_init 5 = .ok (.new 7, 3) := by decide +kernel
theorem dX7_init_8 : decode cX7_init 8 = .ok (.dup, 1) := by decide +kernel
theorem dX7_init_9 : decode cX7_init 9 = .ok (.invokespecial 9, 3) := by decide +kernel
theorem dX7_init_12 : decode cX7_init 12 = .ok (.putfield 10, 3) := by decide +kernel
theorem dX7_init_15 : decode cX7_init 15 = .ok (.aload_n 0, 1) := by decide +kernel
theorem dX7_init_16 : decode cX7_init 16 = .ok (.new 16, 3) := by decide +kernel
theorem dX7_init_19 : decode cX7_init 19 = .ok (.dup, 1) := by decide +kernel
theorem dX7_init_20 : decode cX7_init 20 = .ok (.invokespecial 18, 3) := by decide +kernel
theorem dX7_init_23 : decode cX7_init 23 = .ok (.putfield 19, 3) := by decide +kernel
theorem dX7_init_26 : decode cX7_init 26 = .ok (.aload_n 0, 1) := by decide +kernel
theorem dX7_init_27 : decode cX7_init 27 = .ok (.new 23, 3) := by decide +kernel
theorem dX7_init_30 : decode cX7_init 30 = .ok (.dup, 1) := by decide +kernel
theorem dX7_init_31 : decode cX7_init 31 = .ok (.invokespecial 25, 3) := by decide +kernel
theorem dX7_init_34 : decode cX7_init 34 = .ok (.putfield 26, 3) := by decide +kernel
theorem dX7_init_37 : decode cX7_init 37 = .ok (.aload_n 0, 1) := by decide +kernel
theorem dX7_init_38 : decode cX7_init 38 = .ok (.new 30, 3) := by decide +kernel
theorem dX7_init_41 : decode cX7_init 41 = .ok (.dup, 1) := by decide +kernel
theorem dX7_init_42 : decode cX7_init 42 = .ok (.invokespecial 32, 3) := by decide +kernel
theorem dX7_init_45 : decode cX7_init 45 = .ok (.putfield 33, 3) := by decide +kernel
theorem dX7_init_48 : decode cX7_init 48 = .ok (.aload_n 0, 1) := by decide +kernel
theorem dX7_init_49 : decode cX7_init 49 = .ok (.iconst 2, 1) := by decide +kernel
theorem dX7_init_50 : decode cX7_init 50 = .ok (.anewarray 37, 3) := by decide +kernel
theorem dX7_init_53 : decode cX7_init 53 = .ok (.putfield 39, 3) := by decide +kernel
theorem dX7_init_56 : decode cX7_init 56 = .ok (.aload_n 0, 1) := by decide +kernel
theorem dX7_init_57 : decode cX7_init 57 = .ok (.iconst 4, 1) := by decide +kernel
theorem dX7_init_58 : decode cX7_init 58 = .ok (.anewarray 43, 3) := by decide +kernel
theorem dX7_init_61 : decode cX7_init 61 = .ok (.putfield 45, 3) := by decide +kernel
theorem dX7_init_64 : decode cX7_init 64 = .ok (.aload_n 0, 1) := by decide +kernel
theorem dX7_init_65 : decode cX7_init 65 = .ok (.bipush 6, 2) := by decide +kernel
theorem dX7_init_67 : decode cX7_init 67 = .ok (.newarray .int, 2) := by decide +kernel
theorem dX7_init_69 : decode cX7_init 69 = .ok (.putfield 49, 3) := by decide +kernel
theorem dX7_init_72 : decode cX7_init 72 = .ok (.aload_n 0, 1) := by decide +kernel
theorem dX7_init_73 : decode cX7_init 73 = .ok (.bipush 12, 2) := by decide +kernel
theorem dX7_init_75 : decode cX7_init 75 = .ok (.newarray .int, 2) := by decide +kernel
theorem dX7_init_77 : decode cX7_init 77 = .ok (.putfield 53, 3) := by decide +kernel
theorem dX7_init_80 : decode cX7_init 80 = .ok (.aload_n 0, 1) := by decide +kernel
theorem dX7_init_81 : decode cX7_init 81 = .ok (.new 56, 3) := by decide +kernel
theorem dX7_init_84 : decode cX7_init 84 = .ok (.dup, 1) := by decide +kernel
theorem dX7_init_85 : decode cX7_init 85 = .ok (.invokespecial 58, 3) := by decide +kernel
theorem dX7_init_88 : decode cX7_init 88 = .ok (.putfield 59, 3) := by decide +kernel
theorem dX7_init_91 : decode cX7_init 91 = .ok (.aload_n 0, 1) := by decide +kernel
theorem dX7_init_92 : decode cX7_init 92 = .ok (.new 56, 3) := by decide +kernel
theorem dX7_init_95 : decode cX7_init 95 = .ok (.dup, 1) := by decide +kernel
theorem dX7_init_96 : decode cX7_init 96 = .ok (.invokespecial 58, 3) := by decide +kernel
theorem dX7_init_99 : decode cX7_init 99 = .ok (.putfield 63, 3) := by decide +kernel
theorem dX7_init_102 : decode cX7_init 102 = .ok (.iconst 0, 1) := by decide +kernel
theorem dX7_init_103 : decode cX7_init 103 = .ok (.istore_n 1, 1) := by decide +kernel
theorem dX7_init_104 : decode cX7_init 104 = .ok (.iload_n 1, 1) := by decide +kernel
theorem dX7_init_105 : decode cX7_init 105 = .ok (.iconst 2, 1) := by decide +kernel
theorem dX7_init_106 : decode cX7_init 106 = .ok (.if_icmp .ge 22, 3) := by decide +kernel
theorem dX7_init_109 : decode cX7_init 109 = .ok (.aload_n 0, 1) := by decide +kernel
theorem dX7_init_110 : decode cX7_init 110 = .ok (.getfield 39, 3) := by decide +kernel
theorem dX7_init_113 : decode cX7_init 113 = .ok (.iload_n 1, 1) := by decide +kernel
theorem dX7_init_114 : decode cX7_init 114 = .ok (.new 37, 3) := by decide +kernel
theorem dX7_init_117 : decode cX7_init 117 = .ok (.dup, 1) := by decide +kernel
theorem dX7_init_118 : decode cX7_init 118 = .ok (.invokespecial 66, 3) := by decide +kernel
theorem dX7_init_121 : decode cX7_init 121 = .ok (.aastore, 1) := by decide +kernel
theorem dX7_init_122 : decode cX7_init 122 = .ok (.iinc 1 1, 3) := by decide +kernel
theorem dX7_init_125 : decode cX7_init 125 = .ok (.goto (-21), 3) := by decide +kernel
theorem dX7_init_128 : decode cX7_init 128 = .ok (.iconst 0, 1) := by decide +kernel
theorem dX7_init_129 : decode cX7_init 129 = .ok (.istore_n 1, 1) := by decide +kernel
theorem dX7_init_130 : decode cX7_init 130 = .ok (.iload_n 1, 1) := by decide +kernel
theorem dX7_init_131 : decode cX7_init 131 = .ok (.iconst 4, 1) := by decide +kernel
theorem dX7_init_132 : decode cX7_init 132 = .ok (.if_icmp .ge 22, 3) := by decide +kernel
theorem dX7_init_135 : decode cX7_init 135 = .ok (.aload_n 0, 1) := by decide +kernel
theorem dX7_init_136 : decode cX7_init 136 = .ok (.getfield 45, 3) := by decide +kernel
theorem dX7_init_139 : decode cX7_init 139 = .ok (.iload_n 1, 1) := by decide +kernel
theorem dX7_init_140 : decode cX7_init 140 = .ok (.new 43, 3) := by decide +kernel
theorem dX7_init_143 : decode cX7_init 143 = .ok (.dup, 1) := by decide +kernel
theorem dX7_init_144 : decode cX7_init 144 = .ok (.invokespecial 67, 3) := by decide +kernel
theorem dX7_init_147 : decode cX7_init 147 = .ok (.aastore, 1) := by decide +kernel
theorem dX7_init_148 : decode cX7_init 148 = .ok (.iinc 1 1, 3) := by decide +kernel
theorem dX7_init_151 : decode cX7_init 151 = .ok (.goto (-21), 3) := by decide +kernel
theorem dX7_init_154 : decode cX7_init 154 = .ok (.return_, 1) := by decide +kernel
theorem dX7_feed_0 : decode cX7_feed 0 = .ok (.aload_n 0, 1) := by decide +kernel
theorem dX7_feed_1 : decode cX7_feed 1 = .ok (.getfield 10, 3) := by decide +kernel
theorem dX7_feed_4 : decode cX7_feed 4 = .ok (.lload_n 1, 1) := by decide +kernel
theorem dX7_feed_5 : decode cX7_feed 5 = .ok (.invokevirtual 68, 3) := by decide +kernel
theorem dX7_feed_8 : decode cX7_feed 8 = .ok (.ifCond .eq 13, 3) := by decide +kernel
theorem dX7_feed_11 : decode cX7_feed 11 = .ok (.aload_n 0, 1) := by decide +kernel
theorem dX7_feed_12 : decode cX7_feed 12 = .ok (.getfield 10, 3) := by decide +kernel
theorem dX7_feed_15 : decode cX7_feed 15 = .ok (.getfield 72, 3) := by decide +kernel
theorem dX7_feed_18 : decode cX7_feed 18 = .ok (.goto 5, 3) := by decide +kernel
theorem dX7_feed_21 : decode cX7_feed 21 = .ok (.bipush (-3), 2) := by decide +kernel
theorem dX7_feed_23 : decode cX7_feed 23 = .ok (.ireturn, 1) := by decide +kernel
theorem dX7_end_0 : decode cX7_end 0 = .ok (.aload_n 0, 1) := by decide +kernel
theorem dX7_end_1 : decode cX7_end 1 = .ok (.getfield 10, 3) := by decide +kernel
theorem dX7_end_4 : decode cX7_end 4 = .ok (.getfield 72, 3) := by decide +kernel
theorem dX7_end_7 : decode cX7_end 7 = .ok (.istore_n 2, 1) := by decide +kernel
theorem dX7_end_8 : decode cX7_end 8 = .ok (.iload_n 1, 1) := by decide +kernel
theorem dX7_end_9 : decode cX7_end 9 = .ok (.ifCond .lt 8, 3) := by decide +kernel
theorem dX7_end_12 : decode cX7_end 12 = .ok (.iload_n 1, 1) := by decide +kernel
theorem dX7_end_13 : decode cX7_end 13 = .ok (.iload_n 2, 1) := by decide +kernel
theorem dX7_end_14 : decode cX7_end 14 = .ok (.if_icmp .le 5, 3) := by decide +kernel
theorem dX7_end_17 : decode cX7_end 17 = .ok (.iconst (-1), 1) := by decide +kernel
theorem dX7_end_18 : decode cX7_end 18 = .ok (.ireturn, 1) := by decide +kernel
theorem dX7_end_19 : decode cX7_end 19 = .ok (.aload_n 0, 1) := by decide +kernel
theorem dX7_end_20 : decode cX7_end 20 = .ok (.getfield 10, 3) := by decide +kernel
theorem dX7_end_23 : decode cX7_end 23 = .ok (.iload_n 1, 1) := by decide +kernel
theorem dX7_end_24 : decode cX7_end 24 = .ok (.putfield 72, 3) := by decide +kernel
theorem dX7_end_27 : decode cX7_end 27 = .ok (.iload_n 2, 1) := by decide +kernel
theorem dX7_end_28 : decode cX7_end 28 = .ok (.ireturn, 1) := by decide +kernel
theorem dX7_land_0 : decode cX7_land 0 = .ok (.aload_n 0, 1) := by decide +kernel
theorem dX7_land_1 : decode cX7_land 1 = .ok (.getfield 63, 3) := by decide +kernel
theorem dX7_land_4 : decode cX7_land 4 = .ok (.invokevirtual 76, 3) := by decide +kernel
theorem dX7_land_7 : decode cX7_land 7 = .ok (.aload_n 0, 1) := by decide +kernel
theorem dX7_land_8 : decode cX7_land 8 = .ok (.getfield 19, 3) := by decide +kernel
theorem dX7_land_11 : decode cX7_land 11 = .ok (.aload_n 0, 1) := by decide +kernel
theorem dX7_land_12 : decode cX7_land 12 = .ok (.getfield 10, 3) := by decide +kernel
theorem dX7_land_15 : decode cX7_land 15 = .ok (.aload_n 0, 1) := by decide +kernel
theorem dX7_land_16 : decode cX7_land 16 = .ok (.getfield 63, 3) := by decide +kernel
theorem dX7_land_19 : decode cX7_land 19 = .ok (.invokevirtual 79, 3) := by decide +kernel
theorem dX7_land_22 : decode cX7_land 22 = .ok (.istore_n 1, 1) := by decide +kernel
theorem dX7_land_23 : decode cX7_land 23 = .ok (.aload_n 0, 1) := by decide +kernel
theorem dX7_land_24 : decode cX7_land 24 = .ok (.getfield 10, 3) := by decide +kernel
theorem dX7_land_27 : decode cX7_land 27 = .ok (.iconst 0, 1) := by decide +kernel
theorem dX7_land_28 : decode cX7_land 28 = .ok (.putfield 72, 3) := by decide +kernel
theorem dX7_land_31 : decode cX7_land 31 = .ok (.aload_n 0, 1) := by decide +kernel
theorem dX7_land_32 : decode cX7_land 32 = .ok (.aload_n 0, 1) := by decide +kernel
theorem dX7_land_33 : decode cX7_land 33 = .ok (.getfield 19, 3) := by decide +kernel
theorem dX7_land_36 : decode cX7_land 36 = .ok (.getfield 83, 3) := by decide +kernel
theorem dX7_land_39 : decode cX7_land 39 = .ok (.putfield 86, 3) := by decide +kernel
theorem dX7_land_42 : decode cX7_land 42 = .ok (.aload_n 0, 1) := by decide +kernel
theorem dX7_land_43 : decode cX7_land 43 = .ok (.getfield 86, 3) := by decide +kernel
theorem dX7_land_46 : decode cX7_land 46 = .ok (.ifCond .eq 5, 3) := by decide +kernel
theorem dX7_land_49 : decode cX7_land 49 = .ok (.iload_n 1, 1) := by decide +kernel
theorem dX7_land_50 : decode cX7_land 50 = .ok (.ireturn, 1) := by decide +kernel
theorem dX7_land_51 : decode cX7_land 51 = .ok (.aload_n 0, 1) := by decide +kernel
theorem dX7_land_52 : decode cX7_land 52 = .ok (.getfield 59, 3) := by decide +kernel
theorem dX7_land_55 : decode cX7_land 55 = .ok (.astore_n 2, 1) := by decide +kernel
theorem dX7_land_56 : decode cX7_land 56 = .ok (.aload_n 0, 1) := by decide +kernel
theorem dX7_land_57 : decode cX7_land 57 = .ok (.aload_n 0, 1) := by decide +kernel
theorem dX7_land_58 : decode cX7_land 58 = .ok (.getfield 63, 3) := by decide +kernel
theorem dX7_land_61 : decode cX7_land 61 = .ok (.putfield 59, 3) := by decide +kernel
theorem dX7_land_64 : decode cX7_land 64 = .ok (.aload_n 0, 1) := by decide +kernel
theorem dX7_land_65 : decode cX7_land 65 = .ok (.aload_n 2, 1) := by decide +kernel
theorem dX7_land_66 : decode cX7_land 66 = .ok (.putfield 63, 3) := by decide +kernel
theorem dX7_land_69 : decode cX7_land 69 = .ok (.aload_n 0, 1) := by decide +kernel
theorem dX7_land_70 : decode cX7_land 70 = .ok (.getfield 26, 3) := by decide +kernel
theorem dX7_land_73 : decode cX7_land 73 = .ok (.invokevirtual 89, 3) := by decide +kernel
theorem dX7_land_76 : decode cX7_land 76 = .ok (.iconst 0, 1) := by decide +kernel
theorem dX7_land_77 : decode cX7_land 77 = .ok (.istore_n 3, 1) := by decide +kernel
theorem dX7_land_78 : decode cX7_land 78 = .ok (.iload_n 3, 1) := by decide +kernel
theorem dX7_land_79 : decode cX7_land 79 = .ok (.iconst 2, 1) := by decide +kernel
theorem dX7_land_80 : decode cX7_land 80 = .ok (.if_icmp .ge 19, 3) := by decide +kernel
theorem dX7_land_83 : decode cX7_land 83 = .ok (.aload_n 0, 1) := by decide +kernel
theorem dX7_land_84 : decode cX7_land 84 = .ok (.getfield 39, 3) := by decide +kernel
theorem dX7_land_87 : decode cX7_land 87 = .ok (.iload_n 3, 1) := by decide +kernel
theorem dX7_land_88 : decode cX7_land 88 = .ok (.aaload, 1) := by decide +kernel
theorem dX7_land_89 : decode cX7_land 89 = .ok (.iconst 0, 1) := by decide +kernel
theorem dX7_land_90 : decode cX7_land 90 = .ok (.putfield 90, 3) := by decide +kernel
theorem dX7_land_93 : decode cX7_land 93 = .ok (.iinc 3 1, 3) := by decide +kernel
theorem dX7_land_96 : decode cX7_land 96 = .ok (.goto (-18), 3) := by decide +kernel
theorem dX7_land_99 : decode cX7_land 99 = .ok (.iload_n 1, 1) := by decide +kernel
theorem dX7_land_100 : decode cX7_land 100 = .ok (.ireturn, 1) := by decide +kernel
theorem dX7_fault_0 : decode cX7_fault 0 = .ok (.aload_n 0, 1) := by decide +kernel
theorem dX7_fault_1 : decode cX7_fault 1 = .ok (.getfield 86, 3) := by decide +kernel
theorem dX7_fault_4 : decode cX7_fault 4 = .ok (.ireturn, 1) := by decide +kernel
theorem dX7_rule_0 : decode cX7_rule 0 = .ok (.iload_n 1, 1) := by decide +kernel
theorem dX7_rule_1 : decode cX7_rule 1 = .ok (.bipush 6, 2) := by decide +kernel
theorem dX7_rule_3 : decode cX7_rule 3 = .ok (.invokestatic 94, 3) := by decide +kernel
theorem dX7_rule_6 : decode cX7_rule 6 = .ok (.ifCond .eq 15, 3) := by decide +kernel
theorem dX7_rule_9 : decode cX7_rule 9 = .ok (.aload_n 0, 1) := by decide +kernel
theorem dX7_rule_10 : decode cX7_rule 10 = .ok (.getfield 59, 3) := by decide +kernel
theorem dX7_rule_13 : decode cX7_rule 13 = .ok (.getfield 98, 3) := by decide +kernel
theorem dX7_rule_16 : decode cX7_rule 16 = .ok (.iload_n 1, 1) := by decide +kernel
theorem dX7_rule_17 : decode cX7_rule 17 = .ok (.iaload, 1) := by decide +kernel
theorem dX7_rule_18 : decode cX7_rule 18 = .ok (.goto 4, 3) := by decide +kernel
theorem dX7_rule_21 : decode cX7_rule 21 = .ok (.iconst (-1), 1) := by decide +kernel
theorem dX7_rule_22 : decode cX7_rule 22 = .ok (.ireturn, 1) := by decide +kernel
theorem dX7_tower_0 : decode cX7_tower 0 = .ok (.aload_n 0, 1) := by decide +kernel
theorem dX7_tower_1 : decode cX7_tower 1 = .ok (.getfield 59, 3) := by decide +kernel
theorem dX7_tower_4 : decode cX7_tower 4 = .ok (.iload_n 1, 1) := by decide +kernel
theorem dX7_tower_5 : decode cX7_tower 5 = .ok (.invokevirtual 101, 3) := by decide +kernel
theorem dX7_tower_8 : decode cX7_tower 8 = .ok (.ifCond .eq 11, 3) := by decide +kernel
theorem dX7_tower_11 : decode cX7_tower 11 = .ok (.iload_n 2, 1) := by decide +kernel
theorem dX7_tower_12 : decode cX7_tower 12 = .ok (.iconst 2, 1) := by decide +kernel
theorem dX7_tower_13 : decode cX7_tower 13 = .ok (.invokestatic 94, 3) := by decide +kernel
theorem dX7_tower_16 : decode cX7_tower 16 = .ok (.ifCond .ne 5, 3) := by decide +kernel
theorem dX7_tower_19 : decode cX7_tower 19 = .ok (.iconst (-1), 1) := by decide +kernel
theorem dX7_tower_20 : decode cX7_tower 20 = .ok (.ireturn, 1) := by decide +kernel
theorem dX7_tower_21 : decode cX7_tower 21 = .ok (.iload_n 2, 1) := by decide +kernel
theorem dX7_tower_22 : decode cX7_tower 22 = .ok (.ifCond .ne 15, 3) := by decide +kernel
theorem dX7_tower_25 : decode cX7_tower 25 = .ok (.aload_n 0, 1) := by decide +kernel
theorem dX7_tower_26 : decode cX7_tower 26 = .ok (.getfield 59, 3) := by decide +kernel
theorem dX7_tower_29 : decode cX7_tower 29 = .ok (.getfield 105, 3) := by decide +kernel
theorem dX7_tower_32 : decode cX7_tower 32 = .ok (.iload_n 1, 1) := by decide +kernel
theorem dX7_tower_33 : decode cX7_tower 33 = .ok (.iaload, 1) := by decide +kernel
theorem dX7_tower_34 : decode cX7_tower 34 = .ok (.goto 12, 3) := by decide +kernel
theorem dX7_tower_37 : decode cX7_tower 37 = .ok (.aload_n 0, 1) := by decide +kernel
theorem dX7_tower_38 : decode cX7_tower 38 = .ok (.getfield 59, 3) := by decide +kernel
theorem dX7_tower_41 : decode cX7_tower 41 = .ok (.getfield 108, 3) := by decide +kernel
theorem dX7_tower_44 : decode cX7_tower 44 = .ok (.iload_n 1, 1) := by decide +kernel
theorem dX7_tower_45 : decode cX7_tower 45 = .ok (.iaload, 1) := by decide +kernel
theorem dX7_tower_46 : decode cX7_tower 46 = .ok (.ireturn, 1) := by decide +kernel
theorem dX7_hill_0 : decode cX7_hill 0 = .ok (.iload_n 1, 1) := by decide +kernel
theorem dX7_hill_1 : decode cX7_hill 1 = .ok (.aload_n 0, 1) := by decide +kernel
theorem dX7_hill_2 : decode cX7_hill 2 = .ok (.getfield 59, 3) := by decide +kernel
theorem dX7_hill_5 : decode cX7_hill 5 = .ok (.getfield 111, 3) := by decide +kernel
theorem dX7_hill_8 : decode cX7_hill 8 = .ok (.invokestatic 94, 3) := by decide +kernel
theorem dX7_hill_11 : decode cX7_hill 11 = .ok (.ifCond .eq 15, 3) := by decide +kernel
theorem dX7_hill_14 : decode cX7_hill 14 = .ok (.aload_n 0, 1) := by decide +kernel
theorem dX7_hill_15 : decode cX7_hill 15 = .ok (.getfield 59, 3) := by decide +kernel
theorem dX7_hill_18 : decode cX7_hill 18 = .ok (.getfield 114, 3) := by decide +kernel
theorem dX7_hill_21 : decode cX7_hill 21 = .ok (.iload_n 1, 1) := by decide +kernel
theorem dX7_hill_22 : decode cX7_hill 22 = .ok (.iaload, 1) := by decide +kernel
theorem dX7_hill_23 : decode cX7_hill 23 = .ok (.goto 4, 3) := by decide +kernel
theorem dX7_hill_26 : decode cX7_hill 26 = .ok (.iconst (-1), 1) := by decide +kernel
theorem dX7_hill_27 : decode cX7_hill 27 = .ok (.ireturn, 1) := by decide +kernel
theorem dX7_note_0 : decode cX7_note 0 = .ok (.iload_n 1, 1) := by decide +kernel
theorem dX7_note_1 : decode cX7_note 1 = .ok (.aload_n 0, 1) := by decide +kernel
theorem dX7_note_2 : decode cX7_note 2 = .ok (.getfield 59, 3) := by decide +kernel
theorem dX7_note_5 : decode cX7_note 5 = .ok (.getfield 117, 3) := by decide +kernel
theorem dX7_note_8 : decode cX7_note 8 = .ok (.invokestatic 94, 3) := by decide +kernel
theorem dX7_note_11 : decode cX7_note 11 = .ok (.ifCond .eq 11, 3) := by decide +kernel
theorem dX7_note_14 : decode cX7_note 14 = .ok (.iload_n 2, 1) := by decide +kernel
theorem dX7_note_15 : decode cX7_note 15 = .ok (.iconst 2, 1) := by decide +kernel
theorem dX7_note_16 : decode cX7_note 16 = .ok (.invokestatic 94, 3) := by decide +kernel
theorem dX7_note_19 : decode cX7_note 19 = .ok (.ifCond .ne 5, 3) := by decide +kernel
theorem dX7_note_22 : decode cX7_note 22 = .ok (.iconst (-1), 1) := by decide +kernel
theorem dX7_note_23 : decode cX7_note 23 = .ok (.ireturn, 1) := by decide +kernel
theorem dX7_note_24 : decode cX7_note 24 = .ok (.iload_n 2, 1) := by decide +kernel
theorem dX7_note_25 : decode cX7_note 25 = .ok (.ifCond .ne 15, 3) := by decide +kernel
theorem dX7_note_28 : decode cX7_note 28 = .ok (.aload_n 0, 1) := by decide +kernel
theorem dX7_note_29 : decode cX7_note 29 = .ok (.getfield 59, 3) := by decide +kernel
theorem dX7_note_32 : decode cX7_note 32 = .ok (.getfield 120, 3) := by decide +kernel
theorem dX7_note_35 : decode cX7_note 35 = .ok (.iload_n 1, 1) := by decide +kernel
theorem dX7_note_36 : decode cX7_note 36 = .ok (.iaload, 1) := by decide +kernel
theorem dX7_note_37 : decode cX7_note 37 = .ok (.goto 12, 3) := by decide +kernel
theorem dX7_note_40 : decode cX7_note 40 = .ok (.aload_n 0, 1) := by decide +kernel
theorem dX7_note_41 : decode cX7_note 41 = .ok (.getfield 59, 3) := by decide +kernel
theorem dX7_note_44 : decode cX7_note 44 = .ok (.getfield 123, 3) := by decide +kernel
theorem dX7_note_47 : decode cX7_note 47 = .ok (.iload_n 1, 1) := by decide +kernel
theorem dX7_note_48 : decode cX7_note 48 = .ok (.iaload, 1) := by decide +kernel
theorem dX7_note_49 : decode cX7_note 49 = .ok (.ireturn, 1) := by decide +kernel
theorem dX7_wind_0 : decode cX7_wind 0 = .ok (.iload_n 1, 1) := by decide +kernel
theorem dX7_wind_1 : decode cX7_wind 1 = .ok (.iconst 3, 1) := by decide +kernel
theorem dX7_wind_2 : decode cX7_wind 2 = .ok (.invokestatic 94, 3) := by decide +kernel
theorem dX7_wind_5 : decode cX7_wind 5 = .ok (.ifCond .eq 11, 3) := by decide +kernel
theorem dX7_wind_8 : decode cX7_wind 8 = .ok (.iload_n 2, 1) := by decide +kernel
theorem dX7_wind_9 : decode cX7_wind 9 = .ok (.iconst 3, 1) := by decide +kernel
theorem dX7_wind_10 : decode cX7_wind 10 = .ok (.invokestatic 94, 3) := by decide +kernel
theorem dX7_wind_13 : decode cX7_wind 13 = .ok (.ifCond .ne 5, 3) := by decide +kernel
theorem dX7_wind_16 : decode cX7_wind 16 = .ok (.iconst (-1), 1) := by decide +kernel
theorem dX7_wind_17 : decode cX7_wind 17 = .ok (.ireturn, 1) := by decide +kernel
theorem dX7_wind_18 : decode cX7_wind 18 = .ok (.iconst 3, 1) := by decide +kernel
theorem dX7_wind_19 : decode cX7_wind 19 = .ok (.aload_n 0, 1) := by decide +kernel
theorem dX7_wind_20 : decode cX7_wind 20 = .ok (.getfield 59, 3) := by decide +kernel
theorem dX7_wind_23 : decode cX7_wind 23 = .ok (.getfield 98, 3) := by decide +kernel
theorem dX7_wind_26 : decode cX7_wind 26 = .ok (.iconst 4, 1) := by decide +kernel
theorem dX7_wind_27 : decode cX7_wind 27 = .ok (.iaload, 1) := by decide +kernel
theorem dX7_wind_28 : decode cX7_wind 28 = .ok (.imul, 1) := by decide +kernel
theorem dX7_wind_29 : decode cX7_wind 29 = .ok (.aload_n 0, 1) := by decide +kernel
theorem dX7_wind_30 : decode cX7_wind 30 = .ok (.getfield 59, 3) := by decide +kernel
theorem dX7_wind_33 : decode cX7_wind 33 = .ok (.getfield 98, 3) := by decide +kernel
theorem dX7_wind_36 : decode cX7_wind 36 = .ok (.iconst 5, 1) := by decide +kernel
theorem dX7_wind_37 : decode cX7_wind 37 = .ok (.iaload, 1) := by decide +kernel
theorem dX7_wind_38 : decode cX7_wind 38 = .ok (.iadd, 1) := by decide +kernel
theorem dX7_wind_39 : decode cX7_wind 39 = .ok (.istore_n 3, 1) := by decide +kernel
theorem dX7_wind_40 : decode cX7_wind 40 = .ok (.aload_n 0, 1) := by decide +kernel
theorem dX7_wind_41 : decode cX7_wind 41 = .ok (.getfield 59, 3) := by decide +kernel
theorem dX7_wind_44 : decode cX7_wind 44 = .ok (.getfield 98, 3) := by decide +kernel
theorem dX7_wind_47 : decode cX7_wind 47 = .ok (.iconst 4, 1) := by decide +kernel
theorem dX7_wind_48 : decode cX7_wind 48 = .ok (.iload_n 1, 1) := by decide +kernel
theorem dX7_wind_49 : decode cX7_wind 49 = .ok (.iastore, 1) := by decide +kernel
theorem dX7_wind_50 : decode cX7_wind 50 = .ok (.aload_n 0, 1) := by decide +kernel
theorem dX7_wind_51 : decode cX7_wind 51 = .ok (.getfield 59, 3) := by decide +kernel
theorem dX7_wind_54 : decode cX7_wind 54 = .ok (.getfield 98, 3) := by decide +kernel
theorem dX7_wind_57 : decode cX7_wind 57 = .ok (.iconst 5, 1) := by decide +kernel
theorem dX7_wind_58 : decode cX7_wind 58 = .ok (.iload_n 2, 1) := by decide +kernel
theorem dX7_wind_59 : decode cX7_wind 59 = .ok (.iastore, 1) := by decide +kernel
theorem dX7_wind_60 : decode cX7_wind 60 = .ok (.iload_n 3, 1) := by decide +kernel
theorem dX7_wind_61 : decode cX7_wind 61 = .ok (.ireturn, 1) := by decide +kernel
theorem dX7_carry_0 : decode cX7_carry 0 = .ok (.aload_n 0, 1) := by decide +kernel
theorem dX7_carry_1 : decode cX7_carry 1 = .ok (.getfield 59, 3) := by decide +kernel
theorem dX7_carry_4 : decode cX7_carry 4 = .ok (.iload_n 1, 1) := by decide +kernel
theorem dX7_carry_5 : decode cX7_carry 5 = .ok (.invokevirtual 101, 3) := by decide +kernel
theorem dX7_carry_8 : decode cX7_carry 8 = .ok (.ifCond .eq 14, 3) := by decide +kernel
theorem dX7_carry_11 : decode cX7_carry 11 = .ok (.iload_n 2, 1) := by decide +kernel
theorem dX7_carry_12 : decode cX7_carry 12 = .ok (.ifCond .lt 10, 3) := by decide +kernel
theorem dX7_carry_15 : decode cX7_carry 15 = .ok (.iload_n 2, 1) := by decide +kernel
theorem dX7_carry_16 : decode cX7_carry 16 = .ok (.sipush 255, 3) := by decide +kernel
theorem dX7_carry_19 : decode cX7_carry 19 = .ok (.if_icmp .le 5, 3) := by decide +kernel
theorem dX7_carry_22 : decode cX7_carry 22 = .ok (.iconst (-1), 1) := by decide +kernel
theorem dX7_carry_23 : decode cX7_carry 23 = .ok (.ireturn, 1) := by decide +kernel
theorem dX7_carry_24 : decode cX7_carry 24 = .ok (.aload_n 0, 1) := by decide +kernel
theorem dX7_carry_25 : decode cX7_carry 25 = .ok (.getfield 26, 3) := by decide +kernel
theorem dX7_carry_28 : decode cX7_carry 28 = .ok (.iload_n 1, 1) := by decide +kernel
theorem dX7_carry_29 : decode cX7_carry 29 = .ok (.invokevirtual 126, 3) := by decide +kernel
theorem dX7_carry_32 : decode cX7_carry 32 = .ok (.iload_n 2, 1) := by decide +kernel
theorem dX7_carry_33 : decode cX7_carry 33 = .ok (.iconst (-1), 1) := by decide +kernel
theorem dX7_carry_34 : decode cX7_carry 34 = .ok (.ixor, 1) := by decide +kernel
theorem dX7_carry_35 : decode cX7_carry 35 = .ok (.iand, 1) := by decide +kernel
theorem dX7_carry_36 : decode cX7_carry 36 = .ok (.ifCond .eq 6, 3) := by decide +kernel
theorem dX7_carry_39 : decode cX7_carry 39 = .ok (.bipush (-2), 2) := by decide +kernel
theorem dX7_carry_41 : decode cX7_carry 41 = .ok (.ireturn, 1) := by decide +kernel
theorem dX7_carry_42 : decode cX7_carry 42 = .ok (.aload_n 0, 1) := by decide +kernel
theorem dX7_carry_43 : decode cX7_carry 43 = .ok (.getfield 59, 3) := by decide +kernel
theorem dX7_carry_46 : decode cX7_carry 46 = .ok (.getfield 108, 3) := by decide +kernel
theorem dX7_carry_49 : decode cX7_carry 49 = .ok (.iload_n 1, 1) := by decide +kernel
theorem dX7_carry_50 : decode cX7_carry 50 = .ok (.iaload, 1) := by decide +kernel
theorem dX7_carry_51 : decode cX7_carry 51 = .ok (.istore_n 3, 1) := by decide +kernel
theorem dX7_carry_52 : decode cX7_carry 52 = .ok (.aload_n 0, 1) := by decide +kernel
theorem dX7_carry_53 : decode cX7_carry 53 = .ok (.getfield 59, 3) := by decide +kernel
theorem dX7_carry_56 : decode cX7_carry 56 = .ok (.getfield 108, 3) := by decide +kernel
theorem dX7_carry_59 : decode cX7_carry 59 = .ok (.iload_n 1, 1) := by decide +kernel
theorem dX7_carry_60 : decode cX7_carry 60 = .ok (.iload_n 2, 1) := by decide +kernel
theorem dX7_carry_61 : decode cX7_carry 61 = .ok (.iastore, 1) := by decide +kernel
theorem dX7_carry_62 : decode cX7_carry 62 = .ok (.iload_n 3, 1) := by decide +kernel
theorem dX7_carry_63 : decode cX7_carry 63 = .ok (.ireturn, 1) := by decide +kernel
theorem dX7_move_0 : decode cX7_move 0 = .ok (.aload_n 0, 1) := by decide +kernel
theorem dX7_move_1 : decode cX7_move 1 = .ok (.getfield 59, 3) := by decide +kernel
theorem dX7_move_4 : decode cX7_move 4 = .ok (.iload_n 1, 1) := by decide +kernel
theorem dX7_move_5 : decode cX7_move 5 = .ok (.invokevirtual 101, 3) := by decide +kernel
theorem dX7_move_8 : decode cX7_move 8 = .ok (.ifCond .eq 14, 3) := by decide +kernel
theorem dX7_move_11 : decode cX7_move 11 = .ok (.aload_n 0, 1) := by decide +kernel
theorem dX7_move_12 : decode cX7_move 12 = .ok (.getfield 59, 3) := by decide +kernel
theorem dX7_move_15 : decode cX7_move 15 = .ok (.iload_n 2, 1) := by decide +kernel
theorem dX7_move_16 : decode cX7_move 16 = .ok (.invokevirtual 130, 3) := by decide +kernel
theorem dX7_move_19 : decode cX7_move 19 = .ok (.ifCond .ne 5, 3) := by decide +kernel
theorem dX7_move_22 : decode cX7_move 22 = .ok (.iconst (-1), 1) := by decide +kernel
theorem dX7_move_23 : decode cX7_move 23 = .ok (.ireturn, 1) := by decide +kernel
theorem dX7_move_24 : decode cX7_move 24 = .ok (.aload_n 0, 1) := by decide +kernel
theorem dX7_move_25 : decode cX7_move 25 = .ok (.getfield 59, 3) := by decide +kernel
theorem dX7_move_28 : decode cX7_move 28 = .ok (.getfield 105, 3) := by decide +kernel
theorem dX7_move_31 : decode cX7_move 31 = .ok (.iload_n 1, 1) := by decide +kernel
theorem dX7_move_32 : decode cX7_move 32 = .ok (.iaload, 1) := by decide +kernel
theorem dX7_move_33 : decode cX7_move 33 = .ok (.istore_n 3, 1) := by decide +kernel
theorem dX7_move_34 : decode cX7_move 34 = .ok (.aload_n 0, 1) := by decide +kernel
theorem dX7_move_35 : decode cX7_move 35 = .ok (.getfield 59, 3) := by decide +kernel
theorem dX7_move_38 : decode cX7_move 38 = .ok (.getfield 105, 3) := by decide +kernel
theorem dX7_move_41 : decode cX7_move 41 = .ok (.iload_n 1, 1) := by decide +kernel
theorem dX7_move_42 : decode cX7_move 42 = .ok (.iload_n 2, 1) := by decide +kernel
theorem dX7_move_43 : decode cX7_move 43 = .ok (.iastore, 1) := by decide +kernel
theorem dX7_move_44 : decode cX7_move 44 = .ok (.iload_n 3, 1) := by decide +kernel
theorem dX7_move_45 : decode cX7_move 45 = .ok (.ireturn, 1) := by decide +kernel
theorem dX7_takes_0 : decode cX7_takes 0 = .ok (.aload_n 0, 1) := by decide +kernel
theorem dX7_takes_1 : decode cX7_takes 1 = .ok (.getfield 59, 3) := by decide +kernel
theorem dX7_takes_4 : decode cX7_takes 4 = .ok (.iload_n 1, 1) := by decide +kernel
theorem dX7_takes_5 : decode cX7_takes 5 = .ok (.invokevirtual 130, 3) := by decide +kernel
theorem dX7_takes_8 : decode cX7_takes 8 = .ok (.ifCond .eq 26, 3) := by decide +kernel
theorem dX7_takes_11 : decode cX7_takes 11 = .ok (.aload_n 0, 1) := by decide +kernel
theorem dX7_takes_12 : decode cX7_takes 12 = .ok (.getfield 59, 3) := by decide +kernel
theorem dX7_takes_15 : decode cX7_takes 15 = .ok (.iload_n 2, 1) := by decide +kernel
theorem dX7_takes_16 : decode cX7_takes 16 = .ok (.invokevirtual 130, 3) := by decide +kernel
theorem dX7_takes_19 : decode cX7_takes 19 = .ok (.ifCond .eq 15, 3) := by decide +kernel
theorem dX7_takes_22 : decode cX7_takes 22 = .ok (.aload_n 0, 1) := by decide +kernel
theorem dX7_takes_23 : decode cX7_takes 23 = .ok (.getfield 59, 3) := by decide +kernel
theorem dX7_takes_26 : decode cX7_takes 26 = .ok (.iload_n 1, 1) := by decide +kernel
theorem dX7_takes_27 : decode cX7_takes 27 = .ok (.iload_n 2, 1) := by decide +kernel
theorem dX7_takes_28 : decode cX7_takes 28 = .ok (.invokevirtual 133, 3) := by decide +kernel
theorem dX7_takes_31 : decode cX7_takes 31 = .ok (.goto 4, 3) := by decide +kernel
theorem dX7_takes_34 : decode cX7_takes 34 = .ok (.iconst (-1), 1) := by decide +kernel
theorem dX7_takes_35 : decode cX7_takes 35 = .ok (.ireturn, 1) := by decide +kernel
theorem dX7_blow_0 : decode cX7_blow 0 = .ok (.aload_n 0, 1) := by decide +kernel
theorem dX7_blow_1 : decode cX7_blow 1 = .ok (.getfield 59, 3) := by decide +kernel
theorem dX7_blow_4 : decode cX7_blow 4 = .ok (.iload_n 1, 1) := by decide +kernel
theorem dX7_blow_5 : decode cX7_blow 5 = .ok (.invokevirtual 101, 3) := by decide +kernel
theorem dX7_blow_8 : decode cX7_blow 8 = .ok (.ifCond .eq 23, 3) := by decide +kernel
theorem dX7_blow_11 : decode cX7_blow 11 = .ok (.iload_n 2, 1) := by decide +kernel
theorem dX7_blow_12 : decode cX7_blow 12 = .ok (.ifCond .lt 19, 3) := by decide +kernel
theorem dX7_blow_15 : decode cX7_blow 15 = .ok (.iload_n 2, 1) := by decide +kernel
theorem dX7_blow_16 : decode cX7_blow 16 = .ok (.sipush 200, 3) := by decide +kernel
theorem dX7_blow_19 : decode cX7_blow 19 = .ok (.if_icmp .gt 12, 3) := by decide +kernel
theorem dX7_blow_22 : decode cX7_blow 22 = .ok (.iload_n 3, 1) := by decide +kernel
theorem dX7_blow_23 : decode cX7_blow 23 = .ok (.bipush 8, 2) := by decide +kernel
theorem dX7_blow_25 : decode cX7_blow 25 = .ok (.invokestatic 94, 3) := by decide +kernel
theorem dX7_blow_28 : decode cX7_blow 28 = .ok (.ifCond .ne 5, 3) := by decide +kernel
theorem dX7_blow_31 : decode cX7_blow 31 = .ok (.iconst (-1), 1) := by decide +kernel
theorem dX7_blow_32 : decode cX7_blow 32 = .ok (.ireturn, 1) := by decide +kernel
theorem dX7_blow_33 : decode cX7_blow 33 = .ok (.aload_n 0, 1) := by decide +kernel
theorem dX7_blow_34 : decode cX7_blow 34 = .ok (.getfield 59, 3) := by decide +kernel
theorem dX7_blow_37 : decode cX7_blow 37 = .ok (.iload_n 1, 1) := by decide +kernel
theorem dX7_blow_38 : decode cX7_blow 38 = .ok (.iload_n 3, 1) := by decide +kernel
theorem dX7_blow_39 : decode cX7_blow 39 = .ok (.invokevirtual 137, 3) := by decide +kernel
theorem dX7_blow_42 : decode cX7_blow 42 = .ok (.ifCond .ne 6, 3) := by decide +kernel
theorem dX7_blow_45 : decode cX7_blow 45 = .ok (.bipush (-2), 2) := by decide +kernel
theorem dX7_blow_47 : decode cX7_blow 47 = .ok (.ireturn, 1) := by decide +kernel
theorem dX7_blow_48 : decode cX7_blow 48 = .ok (.aload_n 0, 1) := by decide +kernel
theorem dX7_blow_49 : decode cX7_blow 49 = .ok (.getfield 26, 3) := by decide +kernel
theorem dX7_blow_52 : decode cX7_blow 52 = .ok (.iload_n 1, 1) := by decide +kernel
theorem dX7_blow_53 : decode cX7_blow 53 = .ok (.iload_n 2, 1) := by decide +kernel
theorem dX7_blow_54 : decode cX7_blow 54 = .ok (.iload_n 3, 1) := by decide +kernel
theorem dX7_blow_55 : decode cX7_blow 55 = .ok (.invokevirtual 140, 3) := by decide +kernel
theorem dX7_blow_58 : decode cX7_blow 58 = .ok (.ifCond .eq 13, 3) := by decide +kernel
theorem dX7_blow_61 : decode cX7_blow 61 = .ok (.aload_n 0, 1) := by decide +kernel
theorem dX7_blow_62 : decode cX7_blow 62 = .ok (.getfield 26, 3) := by decide +kernel
theorem dX7_blow_65 : decode cX7_blow 65 = .ok (.getfield 144, 3) := by decide +kernel
theorem dX7_blow_68 : decode cX7_blow 68 = .ok (.goto 5, 3) := by decide +kernel
theorem dX7_blow_71 : decode cX7_blow 71 = .ok (.bipush (-3), 2) := by decide +kernel
theorem dX7_blow_73 : decode cX7_blow 73 = .ok (.ireturn, 1) := by decide +kernel
theorem dX7_silence_0 : decode cX7_silence 0 = .ok (.aload_n 0, 1) := by decide +kernel
theorem dX7_silence_1 : decode cX7_silence 1 = .ok (.getfield 26, 3) := by decide +kernel
theorem dX7_silence_4 : decode cX7_silence 4 = .ok (.getfield 144, 3) := by decide +kernel
theorem dX7_silence_7 : decode cX7_silence 7 = .ok (.istore_n 1, 1) := by decide +kernel
theorem dX7_silence_8 : decode cX7_silence 8 = .ok (.aload_n 0, 1) := by decide +kernel
theorem dX7_silence_9 : decode cX7_silence 9 = .ok (.getfield 26, 3) := by decide +kernel
theorem dX7_silence_12 : decode cX7_silence 12 = .ok (.invokevirtual 89, 3) := by decide +kernel
theorem dX7_silence_15 : decode cX7_silence 15 = .ok (.iload_n 1, 1) := by decide +kernel
theorem dX7_silence_16 : decode cX7_silence 16 = .ok (.ireturn, 1) := by decide +kernel
theorem dX7_blown_0 : decode cX7_blown 0 = .ok (.iload_n 1, 1) := by decide +kernel
theorem dX7_blown_1 : decode cX7_blown 1 = .ok (.aload_n 0, 1) := by decide +kernel
theorem dX7_blown_2 : decode cX7_blown 2 = .ok (.getfield 26, 3) := by decide +kernel
theorem dX7_blown_5 : decode cX7_blown 5 = .ok (.getfield 144, 3) := by decide +kernel
theorem dX7_blown_8 : decode cX7_blown 8 = .ok (.invokestatic 94, 3) := by decide +kernel
theorem dX7_blown_11 : decode cX7_blown 11 = .ok (.ifCond .ne 5, 3) := by decide +kernel
theorem dX7_blown_14 : decode cX7_blown 14 = .ok (.iconst (-1), 1) := by decide +kernel
theorem dX7_blown_15 : decode cX7_blown 15 = .ok (.ireturn, 1) := by decide +kernel
theorem dX7_blown_16 : decode cX7_blown 16 = .ok (.iload_n 2, 1) := by decide +kernel
theorem dX7_blown_17 : decode cX7_blown 17 = .ok (.tableswitch 57 0 2 #[27, 37, 47], 27) := by decide +kernel
theorem dX7_blown_44 : decode cX7_blown 44 = .ok (.aload_n 0, 1) := by decide +kernel
theorem dX7_blown_45 : decode cX7_blown 45 = .ok (.getfield 26, 3) := by decide +kernel
theorem dX7_blown_48 : decode cX7_blown 48 = .ok (.getfield 147, 3) := by decide +kernel
theorem dX7_blown_51 : decode cX7_blown 51 = .ok (.iload_n 1, 1) := by decide +kernel
theorem dX7_blown_52 : decode cX7_blown 52 = .ok (.iaload, 1) := by decide +kernel
theorem dX7_blown_53 : decode cX7_blown 53 = .ok (.ireturn, 1) := by decide +kernel
theorem dX7_blown_54 : decode cX7_blown 54 = .ok (.aload_n 0, 1) := by decide +kernel
theorem dX7_blown_55 : decode cX7_blown 55 = .ok (.getfield 26, 3) := by decide +kernel
theorem dX7_blown_58 : decode cX7_blown 58 = .ok (.getfield 150, 3) := by decide +kernel
theorem dX7_blown_61 : decode cX7_blown 61 = .ok (.iload_n 1, 1) := by decide +kernel
theorem dX7_blown_62 : decode cX7_blown 62 = .ok (.iaload, 1) := by decide +kernel
theorem dX7_blown_63 : decode cX7_blown 63 = .ok (.ireturn, 1) := by decide +kernel
theorem dX7_blown_64 : decode cX7_blown 64 = .ok (.aload_n 0, 1) := by decide +kernel
theorem dX7_blown_65 : decode cX7_blown 65 = .ok (.getfield 26, 3) := by decide +kernel
theorem dX7_blown_68 : decode cX7_blown 68 = .ok (.getfield 153, 3) := by decide +kernel
theorem dX7_blown_71 : decode cX7_blown 71 = .ok (.iload_n 1, 1) := by decide +kernel
theorem dX7_blown_72 : decode cX7_blown 72 = .ok (.iaload, 1) := by decide +kernel
theorem dX7_blown_73 : decode cX7_blown 73 = .ok (.ireturn, 1) := by decide +kernel
theorem dX7_blown_74 : decode cX7_blown 74 = .ok (.iload_n 2, 1) := by decide +kernel
theorem dX7_blown_75 : decode cX7_blown 75 = .ok (.bipush 10, 2) := by decide +kernel
theorem dX7_blown_77 : decode cX7_blown 77 = .ok (.if_icmp .lt 29, 3) := by decide +kernel
theorem dX7_blown_80 : decode cX7_blown 80 = .ok (.aload_n 0, 1) := by decide +kernel
theorem dX7_blown_81 : decode cX7_blown 81 = .ok (.getfield 59, 3) := by decide +kernel
theorem dX7_blown_84 : decode cX7_blown 84 = .ok (.iload_n 2, 1) := by decide +kernel
theorem dX7_blown_85 : decode cX7_blown 85 = .ok (.bipush 10, 2) := by decide +kernel
theorem dX7_blown_87 : decode cX7_blown 87 = .ok (.isub, 1) := by decide +kernel
theorem dX7_blown_88 : decode cX7_blown 88 = .ok (.invokevirtual 130, 3) := by decide +kernel
theorem dX7_blown_91 : decode cX7_blown 91 = .ok (.ifCond .eq 15, 3) := by decide +kernel
theorem dX7_blown_94 : decode cX7_blown 94 = .ok (.aload_n 0, 1) := by decide +kernel
theorem dX7_blown_95 : decode cX7_blown 95 = .ok (.iload_n 1, 1) := by decide +kernel
theorem dX7_blown_96 : decode cX7_blown 96 = .ok (.iload_n 2, 1) := by decide +kernel
theorem dX7_blown_97 : decode cX7_blown 97 = .ok (.bipush 10, 2) := by decide +kernel
theorem dX7_blown_99 : decode cX7_blown 99 = .ok (.isub, 1) := by decide +kernel
theorem dX7_blown_100 : decode cX7_blown 100 = .ok (.invokevirtual 156, 3) := by decide +kernel
theorem dX7_blown_103 : decode cX7_blown 103 = .ok (.goto 4, 3) := by decide +kernel
theorem dX7_blown_106 : decode cX7_blown 106 = .ok (.iconst (-1), 1) := by decide +kernel
theorem dX7_blown_107 : decode cX7_blown 107 = .ok (.ireturn, 1) := by decide +kernel
theorem dX7_heard_0 : decode cX7_heard 0 = .ok (.aload_n 0, 1) := by decide +kernel
theorem dX7_heard_1 : decode cX7_heard 1 = .ok (.getfield 59, 3) := by decide +kernel
theorem dX7_heard_4 : decode cX7_heard 4 = .ok (.iload_n 1, 1) := by decide +kernel
theorem dX7_heard_5 : decode cX7_heard 5 = .ok (.invokevirtual 130, 3) := by decide +kernel
theorem dX7_heard_8 : decode cX7_heard 8 = .ok (.ifCond .eq 14, 3) := by decide +kernel
theorem dX7_heard_11 : decode cX7_heard 11 = .ok (.iload_n 2, 1) := by decide +kernel
theorem dX7_heard_12 : decode cX7_heard 12 = .ok (.ifCond .lt 10, 3) := by decide +kernel
theorem dX7_heard_15 : decode cX7_heard 15 = .ok (.iload_n 2, 1) := by decide +kernel
theorem dX7_heard_16 : decode cX7_heard 16 = .ok (.sipush 999, 3) := by decide +kernel
theorem dX7_heard_19 : decode cX7_heard 19 = .ok (.if_icmp .le 5, 3) := by decide +kernel
theorem dX7_heard_22 : decode cX7_heard 22 = .ok (.iconst (-1), 1) := by decide +kernel
theorem dX7_heard_23 : decode cX7_heard 23 = .ok (.ireturn, 1) := by decide +kernel
theorem dX7_heard_24 : decode cX7_heard 24 = .ok (.iload_n 3, 1) := by decide +kernel
theorem dX7_heard_25 : decode cX7_heard 25 = .ok (.ifCond .eq 13, 3) := by decide +kernel
theorem dX7_heard_28 : decode cX7_heard 28 = .ok (.aload_n 0, 1) := by decide +kernel
theorem dX7_heard_29 : decode cX7_heard 29 = .ok (.getfield 59, 3) := by decide +kernel
theorem dX7_heard_32 : decode cX7_heard 32 = .ok (.getfield 111, 3) := by decide +kernel
theorem dX7_heard_35 : decode cX7_heard 35 = .ok (.goto 4, 3) := by decide +kernel
theorem dX7_heard_38 : decode cX7_heard 38 = .ok (.iconst 0, 1) := by decide +kernel
theorem dX7_heard_39 : decode cX7_heard 39 = .ok (.istore 4, 2) := by decide +kernel
theorem dX7_heard_41 : decode cX7_heard 41 = .ok (.iconst 0, 1) := by decide +kernel
theorem dX7_heard_42 : decode cX7_heard 42 = .ok (.istore 5, 2) := by decide +kernel
theorem dX7_heard_44 : decode cX7_heard 44 = .ok (.iconst 0, 1) := by decide +kernel
theorem dX7_heard_45 : decode cX7_heard 45 = .ok (.istore 6, 2) := by decide +kernel
theorem dX7_heard_47 : decode cX7_heard 47 = .ok (.iload 6, 2) := by decide +kernel
theorem dX7_heard_49 : decode cX7_heard 49 = .ok (.aload_n 0, 1) := by decide +kernel
theorem dX7_heard_50 : decode cX7_heard 50 = .ok (.getfield 26, 3) := by decide +kernel
theorem dX7_heard_53 : decode cX7_heard 53 = .ok (.getfield 144, 3) := by decide +kernel
theorem dX7_heard_56 : decode cX7_heard 56 = .ok (.if_icmp .ge 55, 3) := by decide +kernel
theorem dX7_heard_59 : decode cX7_heard 59 = .ok (.iconst 0, 1) := by decide +kernel
theorem dX7_heard_60 : decode cX7_heard 60 = .ok (.istore 7, 2) := by decide +kernel
theorem dX7_heard_62 : decode cX7_heard 62 = .ok (.iload 7, 2) := by decide +kernel
theorem dX7_heard_64 : decode cX7_heard 64 = .ok (.iload 4, 2) := by decide +kernel
theorem dX7_heard_66 : decode cX7_heard 66 = .ok (.if_icmp .gt 39, 3) := by decide +kernel
theorem dX7_heard_69 : decode cX7_heard 69 = .ok (.aload_n 0, 1) := by decide +kernel
theorem dX7_heard_70 : decode cX7_heard 70 = .ok (.iload 7, 2) := by decide +kernel
theorem dX7_heard_72 : decode cX7_heard 72 = .ok (.iload 6, 2) := by decide +kernel
theorem dX7_heard_74 : decode cX7_heard 74 = .ok (.iload_n 1, 1) := by decide +kernel
theorem dX7_heard_75 : decode cX7_heard 75 = .ok (.invokevirtual 159, 3) := by decide +kernel
theorem dX7_heard_78 : decode cX7_heard 78 = .ok (.iload_n 2, 1) := by decide +kernel
theorem dX7_heard_79 : decode cX7_heard 79 = .ok (.if_icmp .ne 20, 3) := by decide +kernel
theorem dX7_heard_82 : decode cX7_heard 82 = .ok (.iload 5, 2) := by decide +kernel
theorem dX7_heard_84 : decode cX7_heard 84 = .ok (.iconst 1, 1) := by decide +kernel
theorem dX7_heard_85 : decode cX7_heard 85 = .ok (.aload_n 0, 1) := by decide +kernel
theorem dX7_heard_86 : decode cX7_heard 86 = .ok (.getfield 26, 3) := by decide +kernel
theorem dX7_heard_89 : decode cX7_heard 89 = .ok (.getfield 153, 3) := by decide +kernel
theorem dX7_heard_92 : decode cX7_heard 92 = .ok (.iload 6, 2) := by decide +kernel
theorem dX7_heard_94 : decode cX7_heard 94 = .ok (.iaload, 1) := by decide +kernel
theorem dX7_heard_95 : decode cX7_heard 95 = .ok (.ishl, 1) := by decide +kernel
theorem dX7_heard_96 : decode cX7_heard 96 = .ok (.ior, 1) := by decide +kernel
theorem dX7_heard_97 : decode cX7_heard 97 = .ok (.istore 5, 2) := by decide +kernel
theorem dX7_heard_99 : decode cX7_heard 99 = .ok (.iinc 7 1, 3) := by decide +kernel
theorem dX7_heard_102 : decode cX7_heard 102 = .ok (.goto (-40), 3) := by decide +kernel
theorem dX7_heard_105 : decode cX7_heard 105 = .ok (.iinc 6 1, 3) := by decide +kernel
theorem dX7_heard_108 : decode cX7_heard 108 = .ok (.goto (-61), 3) := by decide +kernel
theorem dX7_heard_111 : decode cX7_heard 111 = .ok (.iload 5, 2) := by decide +kernel
theorem dX7_heard_113 : decode cX7_heard 113 = .ok (.ireturn, 1) := by decide +kernel
theorem dX7_span_0 : decode cX7_span 0 = .ok (.aload_n 0, 1) := by decide +kernel
theorem dX7_span_1 : decode cX7_span 1 = .ok (.getfield 59, 3) := by decide +kernel
theorem dX7_span_4 : decode cX7_span 4 = .ok (.iload_n 1, 1) := by decide +kernel
theorem dX7_span_5 : decode cX7_span 5 = .ok (.invokevirtual 130, 3) := by decide +kernel
theorem dX7_span_8 : decode cX7_span 8 = .ok (.ifCond .eq 11, 3) := by decide +kernel
theorem dX7_span_11 : decode cX7_span 11 = .ok (.iload_n 2, 1) := by decide +kernel
theorem dX7_span_12 : decode cX7_span 12 = .ok (.iconst 3, 1) := by decide +kernel
theorem dX7_span_13 : decode cX7_span 13 = .ok (.invokestatic 94, 3) := by decide +kernel
theorem dX7_span_16 : decode cX7_span 16 = .ok (.ifCond .ne 5, 3) := by decide +kernel
theorem dX7_span_19 : decode cX7_span 19 = .ok (.iconst (-1), 1) := by decide +kernel
theorem dX7_span_20 : decode cX7_span 20 = .ok (.ireturn, 1) := by decide +kernel
theorem dX7_span_21 : decode cX7_span 21 = .ok (.iload_n 2, 1) := by decide +kernel
theorem dX7_span_22 : decode cX7_span 22 = .ok (.iconst 2, 1) := by decide +kernel
theorem dX7_span_23 : decode cX7_span 23 = .ok (.if_icmp .ne 21, 3) := by decide +kernel
theorem dX7_span_26 : decode cX7_span 26 = .ok (.aload_n 0, 1) := by decide +kernel
theorem dX7_span_27 : decode cX7_span 27 = .ok (.getfield 26, 3) := by decide +kernel
theorem dX7_span_30 : decode cX7_span 30 = .ok (.getfield 144, 3) := by decide +kernel
theorem dX7_span_33 : decode cX7_span 33 = .ok (.iconst 1, 1) := by decide +kernel
theorem dX7_span_34 : decode cX7_span 34 = .ok (.aload_n 0, 1) := by decide +kernel
theorem dX7_span_35 : decode cX7_span 35 = .ok (.getfield 59, 3) := by decide +kernel
theorem dX7_span_38 : decode cX7_span 38 = .ok (.getfield 111, 3) := by decide +kernel
theorem dX7_span_41 : decode cX7_span 41 = .ok (.iadd, 1) := by decide +kernel
theorem dX7_span_42 : decode cX7_span 42 = .ok (.imul, 1) := by decide +kernel
theorem dX7_span_43 : decode cX7_span 43 = .ok (.ireturn, 1) := by decide +kernel
theorem dX7_span_44 : decode cX7_span 44 = .ok (.aload_n 0, 1) := by decide +kernel
theorem dX7_span_45 : decode cX7_span 45 = .ok (.getfield 26, 3) := by decide +kernel
theorem dX7_span_48 : decode cX7_span 48 = .ok (.getfield 144, 3) := by decide +kernel
theorem dX7_span_51 : decode cX7_span 51 = .ok (.ifCond .ne 8, 3) := by decide +kernel
theorem dX7_span_54 : decode cX7_span 54 = .ok (.bipush (-4), 2) := by decide +kernel
theorem dX7_span_56 : decode cX7_span 56 = .ok (.goto 18, 3) := by decide +kernel
theorem dX7_span_59 : decode cX7_span 59 = .ok (.aload_n 0, 1) := by decide +kernel
theorem dX7_span_60 : decode cX7_span 60 = .ok (.iload_n 1, 1) := by decide +kernel
theorem dX7_span_61 : decode cX7_span 61 = .ok (.iload_n 2, 1) := by decide +kernel
theorem dX7_span_62 : decode cX7_span 62 = .ok (.iconst 1, 1) := by decide +kernel
theorem dX7_span_63 : decode cX7_span 63 = .ok (.if_icmp .ne 7, 3) := by decide +kernel
theorem dX7_span_66 : decode cX7_span 66 = .ok (.iconst 1, 1) := by decide +kernel
theorem dX7_span_67 : decode cX7_span 67 = .ok (.goto 4, 3) := by decide +kernel
theorem dX7_span_70 : decode cX7_span 70 = .ok (.iconst 0, 1) := by decide +kernel
theorem dX7_span_71 : decode cX7_span 71 = .ok (.invokevirtual 163, 3) := by decide +kernel
theorem dX7_span_74 : decode cX7_span 74 = .ok (.ireturn, 1) := by decide +kernel
theorem dX7_plays_0 : decode cX7_plays 0 = .ok (.aload_n 0, 1) := by decide +kernel
theorem dX7_plays_1 : decode cX7_plays 1 = .ok (.getfield 59, 3) := by decide +kernel
theorem dX7_plays_4 : decode cX7_plays 4 = .ok (.iload_n 1, 1) := by decide +kernel
theorem dX7_plays_5 : decode cX7_plays 5 = .ok (.invokevirtual 130, 3) := by decide +kernel
theorem dX7_plays_8 : decode cX7_plays 8 = .ok (.ifCond .ne 5, 3) := by decide +kernel
theorem dX7_plays_11 : decode cX7_plays 11 = .ok (.iconst (-1), 1) := by decide +kernel
theorem dX7_plays_12 : decode cX7_plays 12 = .ok (.ireturn, 1) := by decide +kernel
theorem dX7_plays_13 : decode cX7_plays 13 = .ok (.aload_n 0, 1) := by decide +kernel
theorem dX7_plays_14 : decode cX7_plays 14 = .ok (.getfield 59, 3) := by decide +kernel
theorem dX7_plays_17 : decode cX7_plays 17 = .ok (.getfield 117, 3) := by decide +kernel
theorem dX7_plays_20 : decode cX7_plays 20 = .ok (.ifCond .ne 6, 3) := by decide +kernel
theorem dX7_plays_23 : decode cX7_plays 23 = .ok (.bipush (-2), 2) := by decide +kernel
theorem dX7_plays_25 : decode cX7_plays 25 = .ok (.ireturn, 1) := by decide +kernel
theorem dX7_plays_26 : decode cX7_plays 26 = .ok (.iconst 0, 1) := by decide +kernel
theorem dX7_plays_27 : decode cX7_plays 27 = .ok (.istore_n 2, 1) := by decide +kernel
theorem dX7_plays_28 : decode cX7_plays 28 = .ok (.iload_n 2, 1) := by decide +kernel
theorem dX7_plays_29 : decode cX7_plays 29 = .ok (.aload_n 0, 1) := by decide +kernel
theorem dX7_plays_30 : decode cX7_plays 30 = .ok (.getfield 59, 3) := by decide +kernel
theorem dX7_plays_33 : decode cX7_plays 33 = .ok (.getfield 117, 3) := by decide +kernel
theorem dX7_plays_36 : decode cX7_plays 36 = .ok (.if_icmp .ge 41, 3) := by decide +kernel
theorem dX7_plays_39 : decode cX7_plays 39 = .ok (.aload_n 0, 1) := by decide +kernel
theorem dX7_plays_40 : decode cX7_plays 40 = .ok (.getfield 53, 3) := by decide +kernel
theorem dX7_plays_43 : decode cX7_plays 43 = .ok (.iload_n 2, 1) := by decide +kernel
theorem dX7_plays_44 : decode cX7_plays 44 = .ok (.aload_n 0, 1) := by decide +kernel
theorem dX7_plays_45 : decode cX7_plays 45 = .ok (.aload_n 0, 1) := by decide +kernel
theorem dX7_plays_46 : decode cX7_plays 46 = .ok (.getfield 59, 3) := by decide +kernel
theorem dX7_plays_49 : decode cX7_plays 49 = .ok (.getfield 123, 3) := by decide +kernel
theorem dX7_plays_52 : decode cX7_plays 52 = .ok (.iload_n 2, 1) := by decide +kernel
theorem dX7_plays_53 : decode cX7_plays 53 = .ok (.iaload, 1) := by decide +kernel
theorem dX7_plays_54 : decode cX7_plays 54 = .ok (.iload_n 1, 1) := by decide +kernel
theorem dX7_plays_55 : decode cX7_plays 55 = .ok (.invokevirtual 167, 3) := by decide +kernel
theorem dX7_plays_58 : decode cX7_plays 58 = .ok (.iastore, 1) := by decide +kernel
theorem dX7_plays_59 : decode cX7_plays 59 = .ok (.aload_n 0, 1) := by decide +kernel
theorem dX7_plays_60 : decode cX7_plays 60 = .ok (.getfield 53, 3) := by decide +kernel
theorem dX7_plays_63 : decode cX7_plays 63 = .ok (.iload_n 2, 1) := by decide +kernel
theorem dX7_plays_64 : decode cX7_plays 64 = .ok (.iaload, 1) := by decide +kernel
theorem dX7_plays_65 : decode cX7_plays 65 = .ok (.ifCond .ge 6, 3) := by decide +kernel
theorem dX7_plays_68 : decode cX7_plays 68 = .ok (.bipush (-4), 2) := by decide +kernel
theorem dX7_plays_70 : decode cX7_plays 70 = .ok (.ireturn, 1) := by decide +kernel
theorem dX7_plays_71 : decode cX7_plays 71 = .ok (.iinc 2 1, 3) := by decide +kernel
theorem dX7_plays_74 : decode cX7_plays 74 = .ok (.goto (-46), 3) := by decide +kernel
theorem dX7_plays_77 : decode cX7_plays 77 = .ok (.aload_n 0, 1) := by decide +kernel
theorem dX7_plays_78 : decode cX7_plays 78 = .ok (.iload_n 1, 1) := by decide +kernel
theorem dX7_plays_79 : decode cX7_plays 79 = .ok (.invokevirtual 170, 3) := by decide +kernel
theorem dX7_plays_82 : decode cX7_plays 82 = .ok (.ireturn, 1) := by decide +kernel
theorem dX7_right_0 : decode cX7_right 0 = .ok (.aload_n 0, 1) := by decide +kernel
theorem dX7_right_1 : decode cX7_right 1 = .ok (.getfield 59, 3) := by decide +kernel
theorem dX7_right_4 : decode cX7_right 4 = .ok (.iload_n 1, 1) := by decide +kernel
theorem dX7_right_5 : decode cX7_right 5 = .ok (.invokevirtual 130, 3) := by decide +kernel
theorem dX7_right_8 : decode cX7_right 8 = .ok (.ifCond .ne 5, 3) := by decide +kernel
theorem dX7_right_11 : decode cX7_right 11 = .ok (.iconst (-1), 1) := by decide +kernel
theorem dX7_right_12 : decode cX7_right 12 = .ok (.ireturn, 1) := by decide +kernel
theorem dX7_right_13 : decode cX7_right 13 = .ok (.aload_n 0, 1) := by decide +kernel
theorem dX7_right_14 : decode cX7_right 14 = .ok (.getfield 59, 3) := by decide +kernel
theorem dX7_right_17 : decode cX7_right 17 = .ok (.getfield 117, 3) := by decide +kernel
theorem dX7_right_20 : decode cX7_right 20 = .ok (.ifCond .ne 6, 3) := by decide +kernel
theorem dX7_right_23 : decode cX7_right 23 = .ok (.bipush (-2), 2) := by decide +kernel
theorem dX7_right_25 : decode cX7_right 25 = .ok (.ireturn, 1) := by decide +kernel
theorem dX7_right_26 : decode cX7_right 26 = .ok (.aload_n 0, 1) := by decide +kernel
theorem dX7_right_27 : decode cX7_right 27 = .ok (.iload_n 1, 1) := by decide +kernel
theorem dX7_right_28 : decode cX7_right 28 = .ok (.invokevirtual 173, 3) := by decide +kernel
theorem dX7_right_31 : decode cX7_right 31 = .ok (.ifCond .eq 15, 3) := by decide +kernel
theorem dX7_right_34 : decode cX7_right 34 = .ok (.sipush 1000, 3) := by decide +kernel
theorem dX7_right_37 : decode cX7_right 37 = .ok (.aload_n 0, 1) := by decide +kernel
theorem dX7_right_38 : decode cX7_right 38 = .ok (.iload_n 1, 1) := by decide +kernel
theorem dX7_right_39 : decode cX7_right 39 = .ok (.invokevirtual 176, 3) := by decide +kernel
theorem dX7_right_42 : decode cX7_right 42 = .ok (.iadd, 1) := by decide +kernel
theorem dX7_right_43 : decode cX7_right 43 = .ok (.goto 5, 3) := by decide +kernel
theorem dX7_right_46 : decode cX7_right 46 = .ok (.bipush (-4), 2) := by decide +kernel
theorem dX7_right_48 : decode cX7_right 48 = .ok (.ireturn, 1) := by decide +kernel
theorem dX7_rights_0 : decode cX7_rights 0 = .ok (.iload_n 1, 1) := by decide +kernel
theorem dX7_rights_1 : decode cX7_rights 1 = .ok (.iconst 2, 1) := by decide +kernel
theorem dX7_rights_2 : decode cX7_rights 2 = .ok (.invokestatic 94, 3) := by decide +kernel
theorem dX7_rights_5 : decode cX7_rights 5 = .ok (.ifCond .ne 5, 3) := by decide +kernel
theorem dX7_rights_8 : decode cX7_rights 8 = .ok (.iconst (-1), 1) := by decide +kernel
theorem dX7_rights_9 : decode cX7_rights 9 = .ok (.ireturn, 1) := by decide +kernel
theorem dX7_rights_10 : decode cX7_rights 10 = .ok (.aload_n 0, 1) := by decide +kernel
theorem dX7_rights_11 : decode cX7_rights 11 = .ok (.getfield 59, 3) := by decide +kernel
theorem dX7_rights_14 : decode cX7_rights 14 = .ok (.getfield 117, 3) := by decide +kernel
theorem dX7_rights_17 : decode cX7_rights 17 = .ok (.ifCond .ne 6, 3) := by decide +kernel
theorem dX7_rights_20 : decode cX7_rights 20 = .ok (.bipush (-2), 2) := by decide +kernel
theorem dX7_rights_22 : decode cX7_rights 22 = .ok (.ireturn, 1) := by decide +kernel
theorem dX7_rights_23 : decode cX7_rights 23 = .ok (.iconst 0, 1) := by decide +kernel
theorem dX7_rights_24 : decode cX7_rights 24 = .ok (.istore_n 2, 1) := by decide +kernel
theorem dX7_rights_25 : decode cX7_rights 25 = .ok (.iconst 0, 1) := by decide +kernel
theorem dX7_rights_26 : decode cX7_rights 26 = .ok (.istore_n 3, 1) := by decide +kernel
theorem dX7_rights_27 : decode cX7_rights 27 = .ok (.iload_n 3, 1) := by decide +kernel
theorem dX7_rights_28 : decode cX7_rights 28 = .ok (.bipush 81, 2) := by decide +kernel
theorem dX7_rights_30 : decode cX7_rights 30 = .ok (.if_icmp .ge 38, 3) := by decide +kernel
theorem dX7_rights_33 : decode cX7_rights 33 = .ok (.aload_n 0, 1) := by decide +kernel
theorem dX7_rights_34 : decode cX7_rights 34 = .ok (.getfield 59, 3) := by decide +kernel
theorem dX7_rights_37 : decode cX7_rights 37 = .ok (.iload_n 3, 1) := by decide +kernel
theorem dX7_rights_38 : decode cX7_rights 38 = .ok (.invokevirtual 130, 3) := by decide +kernel
theorem dX7_rights_41 : decode cX7_rights 41 = .ok (.ifCond .eq 21, 3) := by decide +kernel
theorem dX7_rights_44 : decode cX7_rights 44 = .ok (.aload_n 0, 1) := by decide +kernel
theorem dX7_rights_45 : decode cX7_rights 45 = .ok (.iload_n 3, 1) := by decide +kernel
theorem dX7_rights_46 : decode cX7_rights 46 = .ok (.invokevirtual 173, 3) := by decide +kernel
theorem dX7_rights_49 : decode cX7_rights 49 = .ok (.ifCond .eq 13, 3) := by decide +kernel
theorem dX7_rights_52 : decode cX7_rights 52 = .ok (.iload_n 1, 1) := by decide +kernel
theorem dX7_rights_53 : decode cX7_rights 53 = .ok (.iconst 1, 1) := by decide +kernel
theorem dX7_rights_54 : decode cX7_rights 54 = .ok (.if_icmp .ne 5, 3) := by decide +kernel
theorem dX7_rights_57 : decode cX7_rights 57 = .ok (.iload_n 3, 1) := by decide +kernel
theorem dX7_rights_58 : decode cX7_rights 58 = .ok (.ireturn, 1) := by decide +kernel
theorem dX7_rights_59 : decode cX7_rights 59 = .ok (.iinc 2 1, 3) := by decide +kernel
theorem dX7_rights_62 : decode cX7_rights 62 = .ok (.iinc 3 1, 3) := by decide +kernel
theorem dX7_rights_65 : decode cX7_rights 65 = .ok (.goto (-38), 3) := by decide +kernel
theorem dX7_rights_68 : decode cX7_rights 68 = .ok (.iload_n 1, 1) := by decide +kernel
theorem dX7_rights_69 : decode cX7_rights 69 = .ok (.ifCond .ne 7, 3) := by decide +kernel
theorem dX7_rights_72 : decode cX7_rights 72 = .ok (.iload_n 2, 1) := by decide +kernel
theorem dX7_rights_73 : decode cX7_rights 73 = .ok (.goto 5, 3) := by decide +kernel
theorem dX7_rights_76 : decode cX7_rights 76 = .ok (.bipush (-4), 2) := by decide +kernel
theorem dX7_rights_78 : decode cX7_rights 78 = .ok (.ireturn, 1) := by decide +kernel
theorem dX7_off_0 : decode cX7_off 0 = .ok (.aload_n 0, 1) := by decide +kernel
theorem dX7_off_1 : decode cX7_off 1 = .ok (.getfield 59, 3) := by decide +kernel
theorem dX7_off_4 : decode cX7_off 4 = .ok (.iload_n 1, 1) := by decide +kernel
theorem dX7_off_5 : decode cX7_off 5 = .ok (.invokevirtual 130, 3) := by decide +kernel
theorem dX7_off_8 : decode cX7_off 8 = .ok (.ifCond .ne 5, 3) := by decide +kernel
theorem dX7_off_11 : decode cX7_off 11 = .ok (.iconst (-1), 1) := by decide +kernel
theorem dX7_off_12 : decode cX7_off 12 = .ok (.ireturn, 1) := by decide +kernel
theorem dX7_off_13 : decode cX7_off 13 = .ok (.aload_n 0, 1) := by decide +kernel
theorem dX7_off_14 : decode cX7_off 14 = .ok (.invokevirtual 179, 3) := by decide +kernel
theorem dX7_off_17 : decode cX7_off 17 = .ok (.ifCond .eq 11, 3) := by decide +kernel
theorem dX7_off_20 : decode cX7_off 20 = .ok (.aload_n 0, 1) := by decide +kernel
theorem dX7_off_21 : decode cX7_off 21 = .ok (.iload_n 1, 1) := by decide +kernel
theorem dX7_off_22 : decode cX7_off 22 = .ok (.invokevirtual 183, 3) := by decide +kernel
theorem dX7_off_25 : decode cX7_off 25 = .ok (.goto 5, 3) := by decide +kernel
theorem dX7_off_28 : decode cX7_off 28 = .ok (.bipush (-2), 2) := by decide +kernel
theorem dX7_off_30 : decode cX7_off 30 = .ok (.ireturn, 1) := by decide +kernel
theorem dX7_near_0 : decode cX7_near 0 = .ok (.iload_n 1, 1) := by decide +kernel
theorem dX7_near_1 : decode cX7_near 1 = .ok (.ifCond .lt 17, 3) := by decide +kernel
theorem dX7_near_4 : decode cX7_near 4 = .ok (.iload_n 1, 1) := by decide +kernel
theorem dX7_near_5 : decode cX7_near 5 = .ok (.bipush 99, 2) := by decide +kernel
theorem dX7_near_7 : decode cX7_near 7 = .ok (.if_icmp .gt 11, 3) := by decide +kernel
theorem dX7_near_10 : decode cX7_near 10 = .ok (.iload_n 2, 1) := by decide +kernel
theorem dX7_near_11 : decode cX7_near 11 = .ok (.iconst 3, 1) := by decide +kernel
theorem dX7_near_12 : decode cX7_near 12 = .ok (.invokestatic 94, 3) := by decide +kernel
theorem dX7_near_15 : decode cX7_near 15 = .ok (.ifCond .ne 5, 3) := by decide +kernel
theorem dX7_near_18 : decode cX7_near 18 = .ok (.iconst (-1), 1) := by decide +kernel
theorem dX7_near_19 : decode cX7_near 19 = .ok (.ireturn, 1) := by decide +kernel
theorem dX7_near_20 : decode cX7_near 20 = .ok (.aload_n 0, 1) := by decide +kernel
theorem dX7_near_21 : decode cX7_near 21 = .ok (.invokevirtual 179, 3) := by decide +kernel
theorem dX7_near_24 : decode cX7_near 24 = .ok (.ifCond .ne 6, 3) := by decide +kernel
theorem dX7_near_27 : decode cX7_near 27 = .ok (.bipush (-2), 2) := by decide +kernel
theorem dX7_near_29 : decode cX7_near 29 = .ok (.ireturn, 1) := by decide +kernel
theorem dX7_near_30 : decode cX7_near 30 = .ok (.iconst 0, 1) := by decide +kernel
theorem dX7_near_31 : decode cX7_near 31 = .ok (.istore_n 3, 1) := by decide +kernel
theorem dX7_near_32 : decode cX7_near 32 = .ok (.iconst 0, 1) := by decide +kernel
theorem dX7_near_33 : decode cX7_near 33 = .ok (.istore 4, 2) := by decide +kernel
theorem dX7_near_35 : decode cX7_near 35 = .ok (.ldc 186, 2) := by decide +kernel
theorem dX7_near_37 : decode cX7_near 37 = .ok (.istore 5, 2) := by decide +kernel
theorem dX7_near_39 : decode cX7_near 39 = .ok (.iconst 0, 1) := by decide +kernel
theorem dX7_near_40 : decode cX7_near 40 = .ok (.istore 6, 2) := by decide +kernel
theorem dX7_near_42 : decode cX7_near 42 = .ok (.iload 6, 2) := by decide +kernel
theorem dX7_near_44 : decode cX7_near 44 = .ok (.bipush 81, 2) := by decide +kernel
theorem dX7_near_46 : decode cX7_near 46 = .ok (.if_icmp .ge 53, 3) := by decide +kernel
theorem dX7_near_49 : decode cX7_near 49 = .ok (.aload_n 0, 1) := by decide +kernel
theorem dX7_near_50 : decode cX7_near 50 = .ok (.getfield 59, 3) := by decide +kernel
theorem dX7_near_53 : decode cX7_near 53 = .ok (.iload 6, 2) := by decide +kernel
theorem dX7_near_55 : decode cX7_near 55 = .ok (.invokevirtual 130, 3) := by decide +kernel
theorem dX7_near_58 : decode cX7_near 58 = .ok (.ifCond .eq 35, 3) := by decide +kernel
theorem dX7_near_61 : decode cX7_near 61 = .ok (.aload_n 0, 1) := by decide +kernel
theorem dX7_near_62 : decode cX7_near 62 = .ok (.iload 6, 2) := by decide +kernel
theorem dX7_near_64 : decode cX7_near 64 = .ok (.invokevirtual 183, 3) := by decide +kernel
theorem dX7_near_67 : decode cX7_near 67 = .ok (.istore 7, 2) := by decide +kernel
theorem dX7_near_69 : decode cX7_near 69 = .ok (.iload 7, 2) := by decide +kernel
theorem dX7_near_71 : decode cX7_near 71 = .ok (.iload_n 1, 1) := by decide +kernel
theorem dX7_near_72 : decode cX7_near 72 = .ok (.if_icmp .gt 6, 3) := by decide +kernel
theorem dX7_near_75 : decode cX7_near 75 = .ok (.iinc 3 1, 3) := by decide +kernel
theorem dX7_near_78 : decode cX7_near 78 = .ok (.iload 7, 2) := by decide +kernel
theorem dX7_near_80 : decode cX7_near 80 = .ok (.iload 5, 2) := by decide +kernel
theorem dX7_near_82 : decode cX7_near 82 = .ok (.if_icmp .ge 11, 3) := by decide +kernel
theorem dX7_near_85 : decode cX7_near 85 = .ok (.iload 7, 2) := by decide +kernel
theorem dX7_near_87 : decode cX7_near 87 = .ok (.istore 5, 2) := by decide +kernel
theorem dX7_near_89 : decode cX7_near 89 = .ok (.iload 6, 2) := by decide +kernel
theorem dX7_near_91 : decode cX7_near 91 = .ok (.istore 4, 2) := by decide +kernel
theorem dX7_near_93 : decode cX7_near 93 = .ok (.iinc 6 1, 3) := by decide +kernel
theorem dX7_near_96 : decode cX7_near 96 = .ok (.goto (-54), 3) := by decide +kernel
theorem dX7_near_99 : decode cX7_near 99 = .ok (.iload_n 2, 1) := by decide +kernel
theorem dX7_near_100 : decode cX7_near 100 = .ok (.ifCond .ne 5, 3) := by decide +kernel
theorem dX7_near_103 : decode cX7_near 103 = .ok (.iload_n 3, 1) := by decide +kernel
theorem dX7_near_104 : decode cX7_near 104 = .ok (.ireturn, 1) := by decide +kernel
theorem dX7_near_105 : decode cX7_near 105 = .ok (.iload_n 2, 1) := by decide +kernel
theorem dX7_near_106 : decode cX7_near 106 = .ok (.iconst 1, 1) := by decide +kernel
theorem dX7_near_107 : decode cX7_near 107 = .ok (.if_icmp .ne 8, 3) := by decide +kernel
theorem dX7_near_110 : decode cX7_near 110 = .ok (.iload 5, 2) := by decide +kernel
theorem dX7_near_112 : decode cX7_near 112 = .ok (.goto 5, 3) := by decide +kernel
theorem dX7_near_115 : decode cX7_near 115 = .ok (.iload 4, 2) := by decide +kernel
theorem dX7_near_117 : decode cX7_near 117 = .ok (.ireturn, 1) := by decide +kernel
theorem dX7_twice_0 : decode cX7_twice 0 = .ok (.iload_n 3, 1) := by decide +kernel
theorem dX7_twice_1 : decode cX7_twice 1 = .ok (.bipush 10, 2) := by decide +kernel
theorem dX7_twice_3 : decode cX7_twice 3 = .ok (.if_icmp .lt 21, 3) := by decide +kernel
theorem dX7_twice_6 : decode cX7_twice 6 = .ok (.iload_n 3, 1) := by decide +kernel
theorem dX7_twice_7 : decode cX7_twice 7 = .ok (.bipush 10, 2) := by decide +kernel
theorem dX7_twice_9 : decode cX7_twice 9 = .ok (.isub, 1) := by decide +kernel
theorem dX7_twice_10 : decode cX7_twice 10 = .ok (.aload_n 0, 1) := by decide +kernel
theorem dX7_twice_11 : decode cX7_twice 11 = .ok (.getfield 59, 3) := by decide +kernel
theorem dX7_twice_14 : decode cX7_twice 14 = .ok (.getfield 117, 3) := by decide +kernel
theorem dX7_twice_17 : decode cX7_twice 17 = .ok (.if_icmp .ge 7, 3) := by decide +kernel
theorem dX7_twice_20 : decode cX7_twice 20 = .ok (.iconst 1, 1) := by decide +kernel
theorem dX7_twice_21 : decode cX7_twice 21 = .ok (.goto 4, 3) := by decide +kernel
theorem dX7_twice_24 : decode cX7_twice 24 = .ok (.iconst 0, 1) := by decide +kernel
theorem dX7_twice_25 : decode cX7_twice 25 = .ok (.istore 4, 2) := by decide +kernel
theorem dX7_twice_27 : decode cX7_twice 27 = .ok (.aload_n 0, 1) := by decide +kernel
theorem dX7_twice_28 : decode cX7_twice 28 = .ok (.getfield 59, 3) := by decide +kernel
theorem dX7_twice_31 : decode cX7_twice 31 = .ok (.iload_n 1, 1) := by decide +kernel
theorem dX7_twice_32 : decode cX7_twice 32 = .ok (.invokevirtual 130, 3) := by decide +kernel
theorem dX7_twice_35 : decode cX7_twice 35 = .ok (.ifCond .eq 27, 3) := by decide +kernel
theorem dX7_twice_38 : decode cX7_twice 38 = .ok (.aload_n 0, 1) := by decide +kernel
theorem dX7_twice_39 : decode cX7_twice 39 = .ok (.getfield 59, 3) := by decide +kernel
theorem dX7_twice_42 : decode cX7_twice 42 = .ok (.iload_n 2, 1) := by decide +kernel
theorem dX7_twice_43 : decode cX7_twice 43 = .ok (.invokevirtual 130, 3) := by decide +kernel
theorem dX7_twice_46 : decode cX7_twice 46 = .ok (.ifCond .eq 16, 3) := by decide +kernel
theorem dX7_twice_49 : decode cX7_twice 49 = .ok (.iload_n 3, 1) := by decide +kernel
theorem dX7_twice_50 : decode cX7_twice 50 = .ok (.iconst 3, 1) := by decide +kernel
theorem dX7_twice_51 : decode cX7_twice 51 = .ok (.invokestatic 94, 3) := by decide +kernel
theorem dX7_twice_54 : decode cX7_twice 54 = .ok (.ifCond .ne 10, 3) := by decide +kernel
theorem dX7_twice_57 : decode cX7_twice 57 = .ok (.iload 4, 2) := by decide +kernel
theorem dX7_twice_59 : decode cX7_twice 59 = .ok (.ifCond .ne 5, 3) := by decide +kernel
theorem dX7_twice_62 : decode cX7_twice 62 = .ok (.iconst (-1), 1) := by decide +kernel
theorem dX7_twice_63 : decode cX7_twice 63 = .ok (.ireturn, 1) := by decide +kernel
theorem dX7_twice_64 : decode cX7_twice 64 = .ok (.aload_n 0, 1) := by decide +kernel
theorem dX7_twice_65 : decode cX7_twice 65 = .ok (.getfield 59, 3) := by decide +kernel
theorem dX7_twice_68 : decode cX7_twice 68 = .ok (.getfield 117, 3) := by decide +kernel
theorem dX7_twice_71 : decode cX7_twice 71 = .ok (.ifCond .ne 6, 3) := by decide +kernel
theorem dX7_twice_74 : decode cX7_twice 74 = .ok (.bipush (-2), 2) := by decide +kernel
theorem dX7_twice_76 : decode cX7_twice 76 = .ok (.ireturn, 1) := by decide +kernel
theorem dX7_twice_77 : decode cX7_twice 77 = .ok (.aload_n 0, 1) := by decide +kernel
theorem dX7_twice_78 : decode cX7_twice 78 = .ok (.iload_n 1, 1) := by decide +kernel
theorem dX7_twice_79 : decode cX7_twice 79 = .ok (.iload_n 2, 1) := by decide +kernel
theorem dX7_twice_80 : decode cX7_twice 80 = .ok (.invokevirtual 187, 3) := by decide +kernel
theorem dX7_twice_83 : decode cX7_twice 83 = .ok (.iconst 0, 1) := by decide +kernel
theorem dX7_twice_84 : decode cX7_twice 84 = .ok (.istore 5, 2) := by decide +kernel
theorem dX7_twice_86 : decode cX7_twice 86 = .ok (.iconst 0, 1) := by decide +kernel
theorem dX7_twice_87 : decode cX7_twice 87 = .ok (.istore 6, 2) := by decide +kernel
theorem dX7_twice_89 : decode cX7_twice 89 = .ok (.iconst 0, 1) := by decide +kernel
theorem dX7_twice_90 : decode cX7_twice 90 = .ok (.istore 7, 2) := by decide +kernel
theorem dX7_twice_92 : decode cX7_twice 92 = .ok (.iconst 0, 1) := by decide +kernel
theorem dX7_twice_93 : decode cX7_twice 93 = .ok (.istore 8, 2) := by decide +kernel
theorem dX7_twice_95 : decode cX7_twice 95 = .ok (.iload 8, 2) := by decide +kernel
theorem dX7_twice_97 : decode cX7_twice 97 = .ok (.aload_n 0, 1) := by decide +kernel
theorem dX7_twice_98 : decode cX7_twice 98 = .ok (.getfield 59, 3) := by decide +kernel
theorem dX7_twice_101 : decode cX7_twice 101 = .ok (.getfield 191, 3) := by decide +kernel
theorem dX7_twice_104 : decode cX7_twice 104 = .ok (.if_icmp .ge 93, 3) := by decide +kernel
theorem dX7_twice_107 : decode cX7_twice 107 = .ok (.aload_n 0, 1) := by decide +kernel
theorem dX7_twice_108 : decode cX7_twice 108 = .ok (.iload 8, 2) := by decide +kernel
theorem dX7_twice_110 : decode cX7_twice 110 = .ok (.invokevirtual 193, 3) := by decide +kernel
theorem dX7_twice_113 : decode cX7_twice 113 = .ok (.ifCond .eq 78, 3) := by decide +kernel
theorem dX7_twice_116 : decode cX7_twice 116 = .ok (.aload_n 0, 1) := by decide +kernel
theorem dX7_twice_117 : decode cX7_twice 117 = .ok (.aload_n 0, 1) := by decide +kernel
theorem dX7_twice_118 : decode cX7_twice 118 = .ok (.getfield 49, 3) := by decide +kernel
theorem dX7_twice_121 : decode cX7_twice 121 = .ok (.iload 8, 2) := by decide +kernel
theorem dX7_twice_123 : decode cX7_twice 123 = .ok (.iaload, 1) := by decide +kernel
theorem dX7_twice_124 : decode cX7_twice 124 = .ok (.invokevirtual 196, 3) := by decide +kernel
theorem dX7_twice_127 : decode cX7_twice 127 = .ok (.ifCond .eq 64, 3) := by decide +kernel
theorem dX7_twice_130 : decode cX7_twice 130 = .ok (.iload 5, 2) := by decide +kernel
theorem dX7_twice_132 : decode cX7_twice 132 = .ok (.ifCond .ne 13, 3) := by decide +kernel
theorem dX7_twice_135 : decode cX7_twice 135 = .ok (.aload_n 0, 1) := by decide +kernel
theorem dX7_twice_136 : decode cX7_twice 136 = .ok (.getfield 49, 3) := by decide +kernel
theorem dX7_twice_139 : decode cX7_twice 139 = .ok (.iload 8, 2) := by decide +kernel
theorem dX7_twice_141 : decode cX7_twice 141 = .ok (.iaload, 1) := by decide +kernel
theorem dX7_twice_142 : decode cX7_twice 142 = .ok (.goto 15, 3) := by decide +kernel
theorem dX7_twice_145 : decode cX7_twice 145 = .ok (.iload 6, 2) := by decide +kernel
theorem dX7_twice_147 : decode cX7_twice 147 = .ok (.aload_n 0, 1) := by decide +kernel
theorem dX7_twice_148 : decode cX7_twice 148 = .ok (.getfield 49, 3) := by decide +kernel
theorem dX7_twice_151 : decode cX7_twice 151 = .ok (.iload 8, 2) := by decide +kernel
theorem dX7_twice_153 : decode cX7_twice 153 = .ok (.iaload, 1) := by decide +kernel
theorem dX7_twice_154 : decode cX7_twice 154 = .ok (.invokestatic 199, 3) := by decide +kernel
theorem dX7_twice_157 : decode cX7_twice 157 = .ok (.istore 6, 2) := by decide +kernel
theorem dX7_twice_159 : decode cX7_twice 159 = .ok (.iload 5, 2) := by decide +kernel
theorem dX7_twice_161 : decode cX7_twice 161 = .ok (.ifCond .ne 13, 3) := by decide +kernel
theorem dX7_twice_164 : decode cX7_twice 164 = .ok (.aload_n 0, 1) := by decide +kernel
theorem dX7_twice_165 : decode cX7_twice 165 = .ok (.getfield 49, 3) := by decide +kernel
theorem dX7_twice_168 : decode cX7_twice 168 = .ok (.iload 8, 2) := by decide +kernel
theorem dX7_twice_170 : decode cX7_twice 170 = .ok (.iaload, 1) := by decide +kernel
theorem dX7_twice_171 : decode cX7_twice 171 = .ok (.goto 15, 3) := by decide +kernel
theorem dX7_twice_174 : decode cX7_twice 174 = .ok (.iload 7, 2) := by decide +kernel
theorem dX7_twice_176 : decode cX7_twice 176 = .ok (.aload_n 0, 1) := by decide +kernel
theorem dX7_twice_177 : decode cX7_twice 177 = .ok (.getfield 49, 3) := by decide +kernel
theorem dX7_twice_180 : decode cX7_twice 180 = .ok (.iload 8, 2) := by decide +kernel
theorem dX7_twice_182 : decode cX7_twice 182 = .ok (.iaload, 1) := by decide +kernel
theorem dX7_twice_183 : decode cX7_twice 183 = .ok (.invokestatic 204, 3) := by decide +kernel
theorem dX7_twice_186 : decode cX7_twice 186 = .ok (.istore 7, 2) := by decide +kernel
theorem dX7_twice_188 : decode cX7_twice 188 = .ok (.iinc 5 1, 3) := by decide +kernel
theorem dX7_twice_191 : decode cX7_twice 191 = .ok (.iinc 8 1, 3) := by decide +kernel
theorem dX7_twice_194 : decode cX7_twice 194 = .ok (.goto (-99), 3) := by decide +kernel
theorem dX7_twice_197 : decode cX7_twice 197 = .ok (.iload_n 3, 1) := by decide +kernel
theorem dX7_twice_198 : decode cX7_twice 198 = .ok (.ifCond .ne 6, 3) := by decide +kernel
theorem dX7_twice_201 : decode cX7_twice 201 = .ok (.iload 5, 2) := by decide +kernel
theorem dX7_twice_203 : decode cX7_twice 203 = .ok (.ireturn, 1) := by decide +kernel
theorem dX7_twice_204 : decode cX7_twice 204 = .ok (.iload 5, 2) := by decide +kernel
theorem dX7_twice_206 : decode cX7_twice 206 = .ok (.ifCond .ne 6, 3) := by decide +kernel
theorem dX7_twice_209 : decode cX7_twice 209 = .ok (.bipush (-4), 2) := by decide +kernel
theorem dX7_twice_211 : decode cX7_twice 211 = .ok (.ireturn, 1) := by decide +kernel
theorem dX7_twice_212 : decode cX7_twice 212 = .ok (.iload 4, 2) := by decide +kernel
theorem dX7_twice_214 : decode cX7_twice 214 = .ok (.ifCond .eq 22, 3) := by decide +kernel
theorem dX7_twice_217 : decode cX7_twice 217 = .ok (.aload_n 0, 1) := by decide +kernel
theorem dX7_twice_218 : decode cX7_twice 218 = .ok (.aload_n 0, 1) := by decide +kernel
theorem dX7_twice_219 : decode cX7_twice 219 = .ok (.getfield 59, 3) := by decide +kernel
theorem dX7_twice_222 : decode cX7_twice 222 = .ok (.getfield 123, 3) := by decide +kernel
theorem dX7_twice_225 : decode cX7_twice 225 = .ok (.iload_n 3, 1) := by decide +kernel
theorem dX7_twice_226 : decode cX7_twice 226 = .ok (.bipush 10, 2) := by decide +kernel
theorem dX7_twice_228 : decode cX7_twice 228 = .ok (.isub, 1) := by decide +kernel
theorem dX7_twice_229 : decode cX7_twice 229 = .ok (.iaload, 1) := by decide +kernel
theorem dX7_twice_230 : decode cX7_twice 230 = .ok (.iload 6, 2) := by decide +kernel
theorem dX7_twice_232 : decode cX7_twice 232 = .ok (.invokevirtual 207, 3) := by decide +kernel
theorem dX7_twice_235 : decode cX7_twice 235 = .ok (.ireturn, 1) := by decide +kernel
theorem dX7_twice_236 : decode cX7_twice 236 = .ok (.sipush 1000, 3) := by decide +kernel
theorem dX7_twice_239 : decode cX7_twice 239 = .ok (.iload_n 3, 1) := by decide +kernel
theorem dX7_twice_240 : decode cX7_twice 240 = .ok (.iconst 1, 1) := by decide +kernel
theorem dX7_twice_241 : decode cX7_twice 241 = .ok (.if_icmp .ne 8, 3) := by decide +kernel
theorem dX7_twice_244 : decode cX7_twice 244 = .ok (.iload 6, 2) := by decide +kernel
theorem dX7_twice_246 : decode cX7_twice 246 = .ok (.goto 5, 3) := by decide +kernel
theorem dX7_twice_249 : decode cX7_twice 249 = .ok (.iload 7, 2) := by decide +kernel
theorem dX7_twice_251 : decode cX7_twice 251 = .ok (.iadd, 1) := by decide +kernel
theorem dX7_twice_252 : decode cX7_twice 252 = .ok (.ireturn, 1) := by decide +kernel
theorem dX7_both_0 : decode cX7_both 0 = .ok (.aload_n 0, 1) := by decide +kernel
theorem dX7_both_1 : decode cX7_both 1 = .ok (.getfield 59, 3) := by decide +kernel
theorem dX7_both_4 : decode cX7_both 4 = .ok (.iload_n 1, 1) := by decide +kernel
theorem dX7_both_5 : decode cX7_both 5 = .ok (.invokevirtual 130, 3) := by decide +kernel
theorem dX7_both_8 : decode cX7_both 8 = .ok (.ifCond .eq 26, 3) := by decide +kernel
theorem dX7_both_11 : decode cX7_both 11 = .ok (.aload_n 0, 1) := by decide +kernel
theorem dX7_both_12 : decode cX7_both 12 = .ok (.getfield 59, 3) := by decide +kernel
theorem dX7_both_15 : decode cX7_both 15 = .ok (.iload_n 2, 1) := by decide +kernel
theorem dX7_both_16 : decode cX7_both 16 = .ok (.invokevirtual 130, 3) := by decide +kernel
theorem dX7_both_19 : decode cX7_both 19 = .ok (.ifCond .eq 15, 3) := by decide +kernel
theorem dX7_both_22 : decode cX7_both 22 = .ok (.iload_n 3, 1) := by decide +kernel
theorem dX7_both_23 : decode cX7_both 23 = .ok (.bipush (-99), 2) := by decide +kernel
theorem dX7_both_25 : decode cX7_both 25 = .ok (.if_icmp .lt 9, 3) := by decide +kernel
theorem dX7_both_28 : decode cX7_both 28 = .ok (.iload_n 3, 1) := by decide +kernel
theorem dX7_both_29 : decode cX7_both 29 = .ok (.bipush 99, 2) := by decide +kernel
theorem dX7_both_31 : decode cX7_both 31 = .ok (.if_icmp .le 5, 3) := by decide +kernel
theorem dX7_both_34 : decode cX7_both 34 = .ok (.iconst (-1), 1) := by decide +kernel
theorem dX7_both_35 : decode cX7_both 35 = .ok (.ireturn, 1) := by decide +kernel
theorem dX7_both_36 : decode cX7_both 36 = .ok (.aload_n 0, 1) := by decide +kernel
theorem dX7_both_37 : decode cX7_both 37 = .ok (.getfield 59, 3) := by decide +kernel
theorem dX7_both_40 : decode cX7_both 40 = .ok (.getfield 117, 3) := by decide +kernel
theorem dX7_both_43 : decode cX7_both 43 = .ok (.ifCond .ne 6, 3) := by decide +kernel
theorem dX7_both_46 : decode cX7_both 46 = .ok (.bipush (-2), 2) := by decide +kernel
theorem dX7_both_48 : decode cX7_both 48 = .ok (.ireturn, 1) := by decide +kernel
theorem dX7_both_49 : decode cX7_both 49 = .ok (.aload_n 0, 1) := by decide +kernel
theorem dX7_both_50 : decode cX7_both 50 = .ok (.iload_n 1, 1) := by decide +kernel
theorem dX7_both_51 : decode cX7_both 51 = .ok (.iload_n 2, 1) := by decide +kernel
theorem dX7_both_52 : decode cX7_both 52 = .ok (.invokevirtual 187, 3) := by decide +kernel
theorem dX7_both_55 : decode cX7_both 55 = .ok (.iconst 0, 1) := by decide +kernel
theorem dX7_both_56 : decode cX7_both 56 = .ok (.istore 4, 2) := by decide +kernel
theorem dX7_both_58 : decode cX7_both 58 = .ok (.iload 4, 2) := by decide +kernel
theorem dX7_both_60 : decode cX7_both 60 = .ok (.aload_n 0, 1) := by decide +kernel
theorem dX7_both_61 : decode cX7_both 61 = .ok (.getfield 59, 3) := by decide +kernel
theorem dX7_both_64 : decode cX7_both 64 = .ok (.getfield 117, 3) := by decide +kernel
theorem dX7_both_67 : decode cX7_both 67 = .ok (.if_icmp .ge 44, 3) := by decide +kernel
theorem dX7_both_70 : decode cX7_both 70 = .ok (.aload_n 0, 1) := by decide +kernel
theorem dX7_both_71 : decode cX7_both 71 = .ok (.getfield 53, 3) := by decide +kernel
theorem dX7_both_74 : decode cX7_both 74 = .ok (.iload 4, 2) := by decide +kernel
theorem dX7_both_76 : decode cX7_both 76 = .ok (.aload_n 0, 1) := by decide +kernel
theorem dX7_both_77 : decode cX7_both 77 = .ok (.aload_n 0, 1) := by decide +kernel
theorem dX7_both_78 : decode cX7_both 78 = .ok (.getfield 59, 3) := by decide +kernel
theorem dX7_both_81 : decode cX7_both 81 = .ok (.getfield 123, 3) := by decide +kernel
theorem dX7_both_84 : decode cX7_both 84 = .ok (.iload 4, 2) := by decide +kernel
theorem dX7_both_86 : decode cX7_both 86 = .ok (.iaload, 1) := by decide +kernel
theorem dX7_both_87 : decode cX7_both 87 = .ok (.iload_n 3, 1) := by decide +kernel
theorem dX7_both_88 : decode cX7_both 88 = .ok (.invokevirtual 207, 3) := by decide +kernel
theorem dX7_both_91 : decode cX7_both 91 = .ok (.iastore, 1) := by decide +kernel
theorem dX7_both_92 : decode cX7_both 92 = .ok (.aload_n 0, 1) := by decide +kernel
theorem dX7_both_93 : decode cX7_both 93 = .ok (.getfield 53, 3) := by decide +kernel
theorem dX7_both_96 : decode cX7_both 96 = .ok (.iload 4, 2) := by decide +kernel
theorem dX7_both_98 : decode cX7_both 98 = .ok (.iaload, 1) := by decide +kernel
theorem dX7_both_99 : decode cX7_both 99 = .ok (.ifCond .ge 6, 3) := by decide +kernel
theorem dX7_both_102 : decode cX7_both 102 = .ok (.bipush (-4), 2) := by decide +kernel
theorem dX7_both_104 : decode cX7_both 104 = .ok (.ireturn, 1) := by decide +kernel
theorem dX7_both_105 : decode cX7_both 105 = .ok (.iinc 4 1, 3) := by decide +kernel
theorem dX7_both_108 : decode cX7_both 108 = .ok (.goto (-50), 3) := by decide +kernel
theorem dX7_both_111 : decode cX7_both 111 = .ok (.aload_n 0, 1) := by decide +kernel
theorem dX7_both_112 : decode cX7_both 112 = .ok (.iload_n 1, 1) := by decide +kernel
theorem dX7_both_113 : decode cX7_both 113 = .ok (.invokevirtual 170, 3) := by decide +kernel
theorem dX7_both_116 : decode cX7_both 116 = .ok (.ireturn, 1) := by decide +kernel
theorem dX7_fewest_0 : decode cX7_fewest 0 = .ok (.iload_n 1, 1) := by decide +kernel
theorem dX7_fewest_1 : decode cX7_fewest 1 = .ok (.iconst 2, 1) := by decide +kernel
theorem dX7_fewest_2 : decode cX7_fewest 2 = .ok (.invokestatic 94, 3) := by decide +kernel
theorem dX7_fewest_5 : decode cX7_fewest 5 = .ok (.ifCond .ne 5, 3) := by decide +kernel
theorem dX7_fewest_8 : decode cX7_fewest 8 = .ok (.iconst (-1), 1) := by decide +kernel
theorem dX7_fewest_9 : decode cX7_fewest 9 = .ok (.ireturn, 1) := by decide +kernel
theorem dX7_fewest_10 : decode cX7_fewest 10 = .ok (.aload_n 0, 1) := by decide +kernel
theorem dX7_fewest_11 : decode cX7_fewest 11 = .ok (.getfield 59, 3) := by decide +kernel
theorem dX7_fewest_14 : decode cX7_fewest 14 = .ok (.invokevirtual 210, 3) := by decide +kernel
theorem dX7_fewest_17 : decode cX7_fewest 17 = .ok (.istore_n 2, 1) := by decide +kernel
theorem dX7_fewest_18 : decode cX7_fewest 18 = .ok (.bipush (-4), 2) := by decide +kernel
theorem dX7_fewest_20 : decode cX7_fewest 20 = .ok (.istore_n 3, 1) := by decide +kernel
theorem dX7_fewest_21 : decode cX7_fewest 21 = .ok (.iconst 0, 1) := by decide +kernel
theorem dX7_fewest_22 : decode cX7_fewest 22 = .ok (.istore 4, 2) := by decide +kernel
theorem dX7_fewest_24 : decode cX7_fewest 24 = .ok (.iload 4, 2) := by decide +kernel
theorem dX7_fewest_26 : decode cX7_fewest 26 = .ok (.iconst 1, 1) := by decide +kernel
theorem dX7_fewest_27 : decode cX7_fewest 27 = .ok (.aload_n 0, 1) := by decide +kernel
theorem dX7_fewest_28 : decode cX7_fewest 28 = .ok (.getfield 59, 3) := by decide +kernel
theorem dX7_fewest_31 : decode cX7_fewest 31 = .ok (.getfield 191, 3) := by decide +kernel
theorem dX7_fewest_34 : decode cX7_fewest 34 = .ok (.ishl, 1) := by decide +kernel
theorem dX7_fewest_35 : decode cX7_fewest 35 = .ok (.if_icmp .ge 56, 3) := by decide +kernel
theorem dX7_fewest_38 : decode cX7_fewest 38 = .ok (.iload_n 3, 1) := by decide +kernel
theorem dX7_fewest_39 : decode cX7_fewest 39 = .ok (.ifCond .lt 15, 3) := by decide +kernel
theorem dX7_fewest_42 : decode cX7_fewest 42 = .ok (.iload 4, 2) := by decide +kernel
theorem dX7_fewest_44 : decode cX7_fewest 44 = .ok (.invokestatic 214, 3) := by decide +kernel
theorem dX7_fewest_47 : decode cX7_fewest 47 = .ok (.iload_n 3, 1) := by decide +kernel
theorem dX7_fewest_48 : decode cX7_fewest 48 = .ok (.invokestatic 214, 3) := by decide +kernel
theorem dX7_fewest_51 : decode cX7_fewest 51 = .ok (.if_icmp .ge 7, 3) := by decide +kernel
theorem dX7_fewest_54 : decode cX7_fewest 54 = .ok (.iconst 1, 1) := by decide +kernel
theorem dX7_fewest_55 : decode cX7_fewest 55 = .ok (.goto 4, 3) := by decide +kernel
theorem dX7_fewest_58 : decode cX7_fewest 58 = .ok (.iconst 0, 1) := by decide +kernel
theorem dX7_fewest_59 : decode cX7_fewest 59 = .ok (.istore 5, 2) := by decide +kernel
theorem dX7_fewest_61 : decode cX7_fewest 61 = .ok (.iload 5, 2) := by decide +kernel
theorem dX7_fewest_63 : decode cX7_fewest 63 = .ok (.ifCond .eq 22, 3) := by decide +kernel
theorem dX7_fewest_66 : decode cX7_fewest 66 = .ok (.iload_n 2, 1) := by decide +kernel
theorem dX7_fewest_67 : decode cX7_fewest 67 = .ok (.aload_n 0, 1) := by decide +kernel
theorem dX7_fewest_68 : decode cX7_fewest 68 = .ok (.getfield 59, 3) := by decide +kernel
theorem dX7_fewest_71 : decode cX7_fewest 71 = .ok (.iload 4, 2) := by decide +kernel
theorem dX7_fewest_73 : decode cX7_fewest 73 = .ok (.invokevirtual 219, 3) := by decide +kernel
theorem dX7_fewest_76 : decode cX7_fewest 76 = .ok (.iconst (-1), 1) := by decide +kernel
theorem dX7_fewest_77 : decode cX7_fewest 77 = .ok (.ixor, 1) := by decide +kernel
theorem dX7_fewest_78 : decode cX7_fewest 78 = .ok (.iand, 1) := by decide +kernel
theorem dX7_fewest_79 : decode cX7_fewest 79 = .ok (.ifCond .ne 6, 3) := by decide +kernel
theorem dX7_fewest_82 : decode cX7_fewest 82 = .ok (.iload 4, 2) := by decide +kernel
theorem dX7_fewest_84 : decode cX7_fewest 84 = .ok (.istore_n 3, 1) := by decide +kernel
theorem dX7_fewest_85 : decode cX7_fewest 85 = .ok (.iinc 4 1, 3) := by decide +kernel
theorem dX7_fewest_88 : decode cX7_fewest 88 = .ok (.goto (-64), 3) := by decide +kernel
theorem dX7_fewest_91 : decode cX7_fewest 91 = .ok (.iload_n 1, 1) := by decide +kernel
theorem dX7_fewest_92 : decode cX7_fewest 92 = .ok (.iconst 1, 1) := by decide +kernel
theorem dX7_fewest_93 : decode cX7_fewest 93 = .ok (.if_icmp .eq 7, 3) := by decide +kernel
theorem dX7_fewest_96 : decode cX7_fewest 96 = .ok (.iload_n 3, 1) := by decide +kernel
theorem dX7_fewest_97 : decode cX7_fewest 97 = .ok (.ifCond .ge 7, 3) := by decide +kernel
theorem dX7_fewest_100 : decode cX7_fewest 100 = .ok (.iload_n 3, 1) := by decide +kernel
theorem dX7_fewest_101 : decode cX7_fewest 101 = .ok (.goto 7, 3) := by decide +kernel
theorem dX7_fewest_104 : decode cX7_fewest 104 = .ok (.iload_n 3, 1) := by decide +kernel
theorem dX7_fewest_105 : decode cX7_fewest 105 = .ok (.invokestatic 214, 3) := by decide +kernel
theorem dX7_fewest_108 : decode cX7_fewest 108 = .ok (.ireturn, 1) := by decide +kernel
theorem dX7_pipes_0 : decode cX7_pipes 0 = .ok (.iload_n 1, 1) := by decide +kernel
theorem dX7_pipes_1 : decode cX7_pipes 1 = .ok (.iconst 4, 1) := by decide +kernel
theorem dX7_pipes_2 : decode cX7_pipes 2 = .ok (.invokestatic 94, 3) := by decide +kernel
theorem dX7_pipes_5 : decode cX7_pipes 5 = .ok (.ifCond .ne 5, 3) := by decide +kernel
theorem dX7_pipes_8 : decode cX7_pipes 8 = .ok (.iconst (-1), 1) := by decide +kernel
theorem dX7_pipes_9 : decode cX7_pipes 9 = .ok (.ireturn, 1) := by decide +kernel
theorem dX7_pipes_10 : decode cX7_pipes 10 = .ok (.iload_n 1, 1) := by decide +kernel
theorem dX7_pipes_11 : decode cX7_pipes 11 = .ok (.iconst 2, 1) := by decide +kernel
theorem dX7_pipes_12 : decode cX7_pipes 12 = .ok (.if_icmp .ge 7, 3) := by decide +kernel
theorem dX7_pipes_15 : decode cX7_pipes 15 = .ok (.iconst 1, 1) := by decide +kernel
theorem dX7_pipes_16 : decode cX7_pipes 16 = .ok (.goto 4, 3) := by decide +kernel
theorem dX7_pipes_19 : decode cX7_pipes 19 = .ok (.iconst 2, 1) := by decide +kernel
theorem dX7_pipes_20 : decode cX7_pipes 20 = .ok (.istore_n 2, 1) := by decide +kernel
theorem dX7_pipes_21 : decode cX7_pipes 21 = .ok (.aload_n 0, 1) := by decide +kernel
theorem dX7_pipes_22 : decode cX7_pipes 22 = .ok (.getfield 59, 3) := by decide +kernel
theorem dX7_pipes_25 : decode cX7_pipes 25 = .ok (.invokevirtual 210, 3) := by decide +kernel
theorem dX7_pipes_28 : decode cX7_pipes 28 = .ok (.istore_n 3, 1) := by decide +kernel
theorem dX7_pipes_29 : decode cX7_pipes 29 = .ok (.iconst 0, 1) := by decide +kernel
theorem dX7_pipes_30 : decode cX7_pipes 30 = .ok (.istore 4, 2) := by decide +kernel
theorem dX7_pipes_32 : decode cX7_pipes 32 = .ok (.ldc 186, 2) := by decide +kernel
theorem dX7_pipes_34 : decode cX7_pipes 34 = .ok (.istore 5, 2) := by decide +kernel
theorem dX7_pipes_36 : decode cX7_pipes 36 = .ok (.iconst 0, 1) := by decide +kernel
theorem dX7_pipes_37 : decode cX7_pipes 37 = .ok (.istore 6, 2) := by decide +kernel
theorem dX7_pipes_39 : decode cX7_pipes 39 = .ok (.iload 6, 2) := by decide +kernel
theorem dX7_pipes_41 : decode cX7_pipes 41 = .ok (.iconst 1, 1) := by decide +kernel
theorem dX7_pipes_42 : decode cX7_pipes 42 = .ok (.aload_n 0, 1) := by decide +kernel
theorem dX7_pipes_43 : decode cX7_pipes 43 = .ok (.getfield 59, 3) := by decide +kernel
theorem dX7_pipes_46 : decode cX7_pipes 46 = .ok (.getfield 191, 3) := by decide +kernel
theorem dX7_pipes_49 : decode cX7_pipes 49 = .ok (.ishl, 1) := by decide +kernel
theorem dX7_pipes_50 : decode cX7_pipes 50 = .ok (.if_icmp .ge 51, 3) := by decide +kernel
theorem dX7_pipes_53 : decode cX7_pipes 53 = .ok (.iload 6, 2) := by decide +kernel
theorem dX7_pipes_55 : decode cX7_pipes 55 = .ok (.invokestatic 214, 3) := by decide +kernel
theorem dX7_pipes_58 : decode cX7_pipes 58 = .ok (.iload_n 2, 1) := by decide +kernel
theorem dX7_pipes_59 : decode cX7_pipes 59 = .ok (.if_icmp .ne 36, 3) := by decide +kernel
theorem dX7_pipes_62 : decode cX7_pipes 62 = .ok (.iload_n 3, 1) := by decide +kernel
theorem dX7_pipes_63 : decode cX7_pipes 63 = .ok (.aload_n 0, 1) := by decide +kernel
theorem dX7_pipes_64 : decode cX7_pipes 64 = .ok (.getfield 59, 3) := by decide +kernel
theorem dX7_pipes_67 : decode cX7_pipes 67 = .ok (.iload 6, 2) := by decide +kernel
theorem dX7_pipes_69 : decode cX7_pipes 69 = .ok (.invokevirtual 219, 3) := by decide +kernel
theorem dX7_pipes_72 : decode cX7_pipes 72 = .ok (.iconst (-1), 1) := by decide +kernel
theorem dX7_pipes_73 : decode cX7_pipes 73 = .ok (.ixor, 1) := by decide +kernel
theorem dX7_pipes_74 : decode cX7_pipes 74 = .ok (.iand, 1) := by decide +kernel
theorem dX7_pipes_75 : decode cX7_pipes 75 = .ok (.invokestatic 214, 3) := by decide +kernel
theorem dX7_pipes_78 : decode cX7_pipes 78 = .ok (.istore 7, 2) := by decide +kernel
theorem dX7_pipes_80 : decode cX7_pipes 80 = .ok (.iload 7, 2) := by decide +kernel
theorem dX7_pipes_82 : decode cX7_pipes 82 = .ok (.iload 5, 2) := by decide +kernel
theorem dX7_pipes_84 : decode cX7_pipes 84 = .ok (.if_icmp .ge 11, 3) := by decide +kernel
theorem dX7_pipes_87 : decode cX7_pipes 87 = .ok (.iload 7, 2) := by decide +kernel
theorem dX7_pipes_89 : decode cX7_pipes 89 = .ok (.istore 5, 2) := by decide +kernel
theorem dX7_pipes_91 : decode cX7_pipes 91 = .ok (.iload 6, 2) := by decide +kernel
theorem dX7_pipes_93 : decode cX7_pipes 93 = .ok (.istore 4, 2) := by decide +kernel
theorem dX7_pipes_95 : decode cX7_pipes 95 = .ok (.iinc 6 1, 3) := by decide +kernel
theorem dX7_pipes_98 : decode cX7_pipes 98 = .ok (.goto (-59), 3) := by decide +kernel
theorem dX7_pipes_101 : decode cX7_pipes 101 = .ok (.iload 4, 2) := by decide +kernel
theorem dX7_pipes_103 : decode cX7_pipes 103 = .ok (.ifCond .ne 6, 3) := by decide +kernel
theorem dX7_pipes_106 : decode cX7_pipes 106 = .ok (.bipush (-4), 2) := by decide +kernel
theorem dX7_pipes_108 : decode cX7_pipes 108 = .ok (.ireturn, 1) := by decide +kernel
theorem dX7_pipes_109 : decode cX7_pipes 109 = .ok (.iload_n 1, 1) := by decide +kernel
theorem dX7_pipes_110 : decode cX7_pipes 110 = .ok (.iconst 3, 1) := by decide +kernel
theorem dX7_pipes_111 : decode cX7_pipes 111 = .ok (.if_icmp .ne 6, 3) := by decide +kernel
theorem dX7_pipes_114 : decode cX7_pipes 114 = .ok (.iload 4, 2) := by decide +kernel
theorem dX7_pipes_116 : decode cX7_pipes 116 = .ok (.ireturn, 1) := by decide +kernel
theorem dX7_pipes_117 : decode cX7_pipes 117 = .ok (.iload_n 1, 1) := by decide +kernel
theorem dX7_pipes_118 : decode cX7_pipes 118 = .ok (.iconst 1, 1) := by decide +kernel
theorem dX7_pipes_119 : decode cX7_pipes 119 = .ok (.if_icmp .ne 13, 3) := by decide +kernel
theorem dX7_pipes_122 : decode cX7_pipes 122 = .ok (.iload 4, 2) := by decide +kernel
theorem dX7_pipes_124 : decode cX7_pipes 124 = .ok (.iconst 1, 1) := by decide +kernel
theorem dX7_pipes_125 : decode cX7_pipes 125 = .ok (.isub, 1) := by decide +kernel
theorem dX7_pipes_126 : decode cX7_pipes 126 = .ok (.invokestatic 214, 3) := by decide +kernel
theorem dX7_pipes_129 : decode cX7_pipes 129 = .ok (.goto 5, 3) := by decide +kernel
theorem dX7_pipes_132 : decode cX7_pipes 132 = .ok (.iload 5, 2) := by decide +kernel
theorem dX7_pipes_134 : decode cX7_pipes 134 = .ok (.ireturn, 1) := by decide +kernel
theorem dX7_men_0 : decode cX7_men 0 = .ok (.aload_n 0, 1) := by decide +kernel
theorem dX7_men_1 : decode cX7_men 1 = .ok (.getfield 33, 3) := by decide +kernel
theorem dX7_men_4 : decode cX7_men 4 = .ok (.aload_n 0, 1) := by decide +kernel
theorem dX7_men_5 : decode cX7_men 5 = .ok (.getfield 26, 3) := by decide +kernel
theorem dX7_men_8 : decode cX7_men 8 = .ok (.getfield 144, 3) := by decide +kernel
theorem dX7_men_11 : decode cX7_men 11 = .ok (.invokevirtual 222, 3) := by decide +kernel
theorem dX7_men_14 : decode cX7_men 14 = .ok (.iconst 0, 1) := by decide +kernel
theorem dX7_men_15 : decode cX7_men 15 = .ok (.istore_n 1, 1) := by decide +kernel
theorem dX7_men_16 : decode cX7_men 16 = .ok (.iload_n 1, 1) := by decide +kernel
theorem dX7_men_17 : decode cX7_men 17 = .ok (.aload_n 0, 1) := by decide +kernel
theorem dX7_men_18 : decode cX7_men 18 = .ok (.getfield 26, 3) := by decide +kernel
theorem dX7_men_21 : decode cX7_men 21 = .ok (.getfield 144, 3) := by decide +kernel
theorem dX7_men_24 : decode cX7_men 24 = .ok (.if_icmp .ge 46, 3) := by decide +kernel
theorem dX7_men_27 : decode cX7_men 27 = .ok (.iconst 0, 1) := by decide +kernel
theorem dX7_men_28 : decode cX7_men 28 = .ok (.istore_n 2, 1) := by decide +kernel
theorem dX7_men_29 : decode cX7_men 29 = .ok (.iload_n 2, 1) := by decide +kernel
theorem dX7_men_30 : decode cX7_men 30 = .ok (.aload_n 0, 1) := by decide +kernel
theorem dX7_men_31 : decode cX7_men 31 = .ok (.getfield 26, 3) := by decide +kernel
theorem dX7_men_34 : decode cX7_men 34 = .ok (.getfield 144, 3) := by decide +kernel
theorem dX7_men_37 : decode cX7_men 37 = .ok (.if_icmp .ge 27, 3) := by decide +kernel
theorem dX7_men_40 : decode cX7_men 40 = .ok (.aload_n 0, 1) := by decide +kernel
theorem dX7_men_41 : decode cX7_men 41 = .ok (.iload_n 1, 1) := by decide +kernel
theorem dX7_men_42 : decode cX7_men 42 = .ok (.iload_n 2, 1) := by decide +kernel
theorem dX7_men_43 : decode cX7_men 43 = .ok (.invokevirtual 226, 3) := by decide +kernel
theorem dX7_men_46 : decode cX7_men 46 = .ok (.ifCond .eq 12, 3) := by decide +kernel
theorem dX7_men_49 : decode cX7_men 49 = .ok (.aload_n 0, 1) := by decide +kernel
theorem dX7_men_50 : decode cX7_men 50 = .ok (.getfield 33, 3) := by decide +kernel
theorem dX7_men_53 : decode cX7_men 53 = .ok (.iload_n 1, 1) := by decide +kernel
theorem dX7_men_54 : decode cX7_men 54 = .ok (.iload_n 2, 1) := by decide +kernel
theorem dX7_men_55 : decode cX7_men 55 = .ok (.invokevirtual 229, 3) := by decide +kernel
theorem dX7_men_58 : decode cX7_men 58 = .ok (.iinc 2 1, 3) := by decide +kernel
theorem dX7_men_61 : decode cX7_men 61 = .ok (.goto (-32), 3) := by decide +kernel
theorem dX7_men_64 : decode cX7_men 64 = .ok (.iinc 1 1, 3) := by decide +kernel
theorem dX7_men_67 : decode cX7_men 67 = .ok (.goto (-51), 3) := by decide +kernel
theorem dX7_men_70 : decode cX7_men 70 = .ok (.aload_n 0, 1) := by decide +kernel
theorem dX7_men_71 : decode cX7_men 71 = .ok (.getfield 33, 3) := by decide +kernel
theorem dX7_men_74 : decode cX7_men 74 = .ok (.invokevirtual 232, 3) := by decide +kernel
theorem dX7_men_77 : decode cX7_men 77 = .ok (.ireturn, 1) := by decide +kernel
theorem dX7_runs_0 : decode cX7_runs 0 = .ok (.iload_n 1, 1) := by decide +kernel
theorem dX7_runs_1 : decode cX7_runs 1 = .ok (.aload_n 0, 1) := by decide +kernel
theorem dX7_runs_2 : decode cX7_runs 2 = .ok (.getfield 26, 3) := by decide +kernel
theorem dX7_runs_5 : decode cX7_runs 5 = .ok (.getfield 144, 3) := by decide +kernel
theorem dX7_runs_8 : decode cX7_runs 8 = .ok (.invokestatic 94, 3) := by decide +kernel
theorem dX7_runs_11 : decode cX7_runs 11 = .ok (.ifCond .eq 22, 3) := by decide +kernel
theorem dX7_runs_14 : decode cX7_runs 14 = .ok (.iload_n 2, 1) := by decide +kernel
theorem dX7_runs_15 : decode cX7_runs 15 = .ok (.aload_n 0, 1) := by decide +kernel
theorem dX7_runs_16 : decode cX7_runs 16 = .ok (.getfield 26, 3) := by decide +kernel
theorem dX7_runs_19 : decode cX7_runs 19 = .ok (.getfield 144, 3) := by decide +kernel
theorem dX7_runs_22 : decode cX7_runs 22 = .ok (.invokestatic 94, 3) := by decide +kernel
theorem dX7_runs_25 : decode cX7_runs 25 = .ok (.ifCond .eq 8, 3) := by decide +kernel
theorem dX7_runs_28 : decode cX7_runs 28 = .ok (.iload_n 1, 1) := by decide +kernel
theorem dX7_runs_29 : decode cX7_runs 29 = .ok (.iload_n 2, 1) := by decide +kernel
theorem dX7_runs_30 : decode cX7_runs 30 = .ok (.if_icmp .ne 5, 3) := by decide +kernel
theorem dX7_runs_33 : decode cX7_runs 33 = .ok (.iconst (-1), 1) := by decide +kernel
theorem dX7_runs_34 : decode cX7_runs 34 = .ok (.ireturn, 1) := by decide +kernel
theorem dX7_runs_35 : decode cX7_runs 35 = .ok (.aload_n 0, 1) := by decide +kernel
theorem dX7_runs_36 : decode cX7_runs 36 = .ok (.iload_n 1, 1) := by decide +kernel
theorem dX7_runs_37 : decode cX7_runs 37 = .ok (.iload_n 2, 1) := by decide +kernel
theorem dX7_runs_38 : decode cX7_runs 38 = .ok (.invokevirtual 226, 3) := by decide +kernel
theorem dX7_runs_41 : decode cX7_runs 41 = .ok (.ifCond .eq 7, 3) := by decide +kernel
theorem dX7_runs_44 : decode cX7_runs 44 = .ok (.iconst 1, 1) := by decide +kernel
theorem dX7_runs_45 : decode cX7_runs 45 = .ok (.goto 4, 3) := by decide +kernel
theorem dX7_runs_48 : decode cX7_runs 48 = .ok (.iconst 0, 1) := by decide +kernel
theorem dX7_runs_49 : decode cX7_runs 49 = .ok (.ireturn, 1) := by decide +kernel
theorem dX7_noted_0 : decode cX7_noted 0 = .ok (.iload_n 1, 1) := by decide +kernel
theorem dX7_noted_1 : decode cX7_noted 1 = .ok (.ifCond .lt 10, 3) := by decide +kernel
theorem dX7_noted_4 : decode cX7_noted 4 = .ok (.iload_n 1, 1) := by decide +kernel
theorem dX7_noted_5 : decode cX7_noted 5 = .ok (.sipush 400, 3) := by decide +kernel
theorem dX7_noted_8 : decode cX7_noted 8 = .ok (.if_icmp .le 5, 3) := by decide +kernel
theorem dX7_noted_11 : decode cX7_noted 11 = .ok (.iconst (-1), 1) := by decide +kernel
theorem dX7_noted_12 : decode cX7_noted 12 = .ok (.ireturn, 1) := by decide +kernel
theorem dX7_noted_13 : decode cX7_noted 13 = .ok (.aload_n 0, 1) := by decide +kernel
theorem dX7_noted_14 : decode cX7_noted 14 = .ok (.getfield 26, 3) := by decide +kernel
theorem dX7_noted_17 : decode cX7_noted 17 = .ok (.getfield 235, 3) := by decide +kernel
theorem dX7_noted_20 : decode cX7_noted 20 = .ok (.aload_n 0, 1) := by decide +kernel
theorem dX7_noted_21 : decode cX7_noted 21 = .ok (.getfield 26, 3) := by decide +kernel
theorem dX7_noted_24 : decode cX7_noted 24 = .ok (.getfield 144, 3) := by decide +kernel
theorem dX7_noted_27 : decode cX7_noted 27 = .ok (.if_icmp .lt 6, 3) := by decide +kernel
theorem dX7_noted_30 : decode cX7_noted 30 = .ok (.bipush (-2), 2) := by decide +kernel
theorem dX7_noted_32 : decode cX7_noted 32 = .ok (.ireturn, 1) := by decide +kernel
theorem dX7_noted_33 : decode cX7_noted 33 = .ok (.aload_n 0, 1) := by decide +kernel
theorem dX7_noted_34 : decode cX7_noted 34 = .ok (.getfield 26, 3) := by decide +kernel
theorem dX7_noted_37 : decode cX7_noted 37 = .ok (.getfield 238, 3) := by decide +kernel
theorem dX7_noted_40 : decode cX7_noted 40 = .ok (.aload_n 0, 1) := by decide +kernel
theorem dX7_noted_41 : decode cX7_noted 41 = .ok (.getfield 26, 3) := by decide +kernel
theorem dX7_noted_44 : decode cX7_noted 44 = .ok (.getfield 235, 3) := by decide +kernel
theorem dX7_noted_47 : decode cX7_noted 47 = .ok (.iload_n 1, 1) := by decide +kernel
theorem dX7_noted_48 : decode cX7_noted 48 = .ok (.iastore, 1) := by decide +kernel
theorem dX7_noted_49 : decode cX7_noted 49 = .ok (.aload_n 0, 1) := by decide +kernel
theorem dX7_noted_50 : decode cX7_noted 50 = .ok (.getfield 26, 3) := by decide +kernel
theorem dX7_noted_53 : decode cX7_noted 53 = .ok (.dup, 1) := by decide +kernel
theorem dX7_noted_54 : decode cX7_noted 54 = .ok (.getfield 235, 3) := by decide +kernel
theorem dX7_noted_57 : decode cX7_noted 57 = .ok (.iconst 1, 1) := by decide +kernel
theorem dX7_noted_58 : decode cX7_noted 58 = .ok (.iadd, 1) := by decide +kernel
theorem dX7_noted_59 : decode cX7_noted 59 = .ok (.putfield 235, 3) := by decide +kernel
theorem dX7_noted_62 : decode cX7_noted 62 = .ok (.aload_n 0, 1) := by decide +kernel
theorem dX7_noted_63 : decode cX7_noted 63 = .ok (.getfield 26, 3) := by decide +kernel
theorem dX7_noted_66 : decode cX7_noted 66 = .ok (.getfield 235, 3) := by decide +kernel
theorem dX7_noted_69 : decode cX7_noted 69 = .ok (.ireturn, 1) := by decide +kernel
theorem dX7_forget_0 : decode cX7_forget 0 = .ok (.aload_n 0, 1) := by decide +kernel
theorem dX7_forget_1 : decode cX7_forget 1 = .ok (.getfield 26, 3) := by decide +kernel
theorem dX7_forget_4 : decode cX7_forget 4 = .ok (.getfield 235, 3) := by decide +kernel
theorem dX7_forget_7 : decode cX7_forget 7 = .ok (.istore_n 1, 1) := by decide +kernel
theorem dX7_forget_8 : decode cX7_forget 8 = .ok (.aload_n 0, 1) := by decide +kernel
theorem dX7_forget_9 : decode cX7_forget 9 = .ok (.getfield 26, 3) := by decide +kernel
theorem dX7_forget_12 : decode cX7_forget 12 = .ok (.iconst 0, 1) := by decide +kernel
theorem dX7_forget_13 : decode cX7_forget 13 = .ok (.putfield 235, 3) := by decide +kernel
theorem dX7_forget_16 : decode cX7_forget 16 = .ok (.iload_n 1, 1) := by decide +kernel
theorem dX7_forget_17 : decode cX7_forget 17 = .ok (.ireturn, 1) := by decide +kernel
theorem dX7_watch_0 : decode cX7_watch 0 = .ok (.aload_n 0, 1) := by decide +kernel
theorem dX7_watch_1 : decode cX7_watch 1 = .ok (.getfield 59, 3) := by decide +kernel
theorem dX7_watch_4 : decode cX7_watch 4 = .ok (.iload_n 1, 1) := by decide +kernel
theorem dX7_watch_5 : decode cX7_watch 5 = .ok (.invokevirtual 130, 3) := by decide +kernel
theorem dX7_watch_8 : decode cX7_watch 8 = .ok (.ifCond .eq 11, 3) := by decide +kernel
theorem dX7_watch_11 : decode cX7_watch 11 = .ok (.iload_n 2, 1) := by decide +kernel
theorem dX7_watch_12 : decode cX7_watch 12 = .ok (.iconst 3, 1) := by decide +kernel
theorem dX7_watch_13 : decode cX7_watch 13 = .ok (.invokestatic 94, 3) := by decide +kernel
theorem dX7_watch_16 : decode cX7_watch 16 = .ok (.ifCond .ne 5, 3) := by decide +kernel
theorem dX7_watch_19 : decode cX7_watch 19 = .ok (.iconst (-1), 1) := by decide +kernel
theorem dX7_watch_20 : decode cX7_watch 20 = .ok (.ireturn, 1) := by decide +kernel
theorem dX7_watch_21 : decode cX7_watch 21 = .ok (.aload_n 0, 1) := by decide +kernel
theorem dX7_watch_22 : decode cX7_watch 22 = .ok (.getfield 26, 3) := by decide +kernel
theorem dX7_watch_25 : decode cX7_watch 25 = .ok (.getfield 235, 3) := by decide +kernel
theorem dX7_watch_28 : decode cX7_watch 28 = .ok (.ifCond .ne 6, 3) := by decide +kernel
theorem dX7_watch_31 : decode cX7_watch 31 = .ok (.bipush (-2), 2) := by decide +kernel
theorem dX7_watch_33 : decode cX7_watch 33 = .ok (.ireturn, 1) := by decide +kernel
theorem dX7_watch_34 : decode cX7_watch 34 = .ok (.iconst 0, 1) := by decide +kernel
theorem dX7_watch_35 : decode cX7_watch 35 = .ok (.istore_n 3, 1) := by decide +kernel
theorem dX7_watch_36 : decode cX7_watch 36 = .ok (.iconst 0, 1) := by decide +kernel
theorem dX7_watch_37 : decode cX7_watch 37 = .ok (.istore 4, 2) := by decide +kernel
theorem dX7_watch_39 : decode cX7_watch 39 = .ok (.iload 4, 2) := by decide +kernel
theorem dX7_watch_41 : decode cX7_watch 41 = .ok (.aload_n 0, 1) := by decide +kernel
theorem dX7_watch_42 : decode cX7_watch 42 = .ok (.getfield 59, 3) := by decide +kernel
theorem dX7_watch_45 : decode cX7_watch 45 = .ok (.getfield 191, 3) := by decide +kernel
theorem dX7_watch_48 : decode cX7_watch 48 = .ok (.if_icmp .ge 46, 3) := by decide +kernel
theorem dX7_watch_51 : decode cX7_watch 51 = .ok (.aload_n 0, 1) := by decide +kernel
theorem dX7_watch_52 : decode cX7_watch 52 = .ok (.iload 4, 2) := by decide +kernel
theorem dX7_watch_54 : decode cX7_watch 54 = .ok (.iload_n 1, 1) := by decide +kernel
theorem dX7_watch_55 : decode cX7_watch 55 = .ok (.invokevirtual 241, 3) := by decide +kernel
theorem dX7_watch_58 : decode cX7_watch 58 = .ok (.istore 5, 2) := by decide +kernel
theorem dX7_watch_60 : decode cX7_watch 60 = .ok (.iload 5, 2) := by decide +kernel
theorem dX7_watch_62 : decode cX7_watch 62 = .ok (.ifCond .eq 26, 3) := by decide +kernel
theorem dX7_watch_65 : decode cX7_watch 65 = .ok (.iload_n 2, 1) := by decide +kernel
theorem dX7_watch_66 : decode cX7_watch 66 = .ok (.ifCond .eq 19, 3) := by decide +kernel
theorem dX7_watch_69 : decode cX7_watch 69 = .ok (.iload_n 2, 1) := by decide +kernel
theorem dX7_watch_70 : decode cX7_watch 70 = .ok (.iconst 1, 1) := by decide +kernel
theorem dX7_watch_71 : decode cX7_watch 71 = .ok (.if_icmp .ne 8, 3) := by decide +kernel
theorem dX7_watch_74 : decode cX7_watch 74 = .ok (.iload 4, 2) := by decide +kernel
theorem dX7_watch_76 : decode cX7_watch 76 = .ok (.goto 8, 3) := by decide +kernel
theorem dX7_watch_79 : decode cX7_watch 79 = .ok (.bipush 100, 2) := by decide +kernel
theorem dX7_watch_81 : decode cX7_watch 81 = .ok (.iload 5, 2) := by decide +kernel
theorem dX7_watch_83 : decode cX7_watch 83 = .ok (.iadd, 1) := by decide +kernel
theorem dX7_watch_84 : decode cX7_watch 84 = .ok (.ireturn, 1) := by decide +kernel
theorem dX7_watch_85 : decode cX7_watch 85 = .ok (.iinc 3 1, 3) := by decide +kernel
theorem dX7_watch_88 : decode cX7_watch 88 = .ok (.iinc 4 1, 3) := by decide +kernel
theorem dX7_watch_91 : decode cX7_watch 91 = .ok (.goto (-52), 3) := by decide +kernel
theorem dX7_watch_94 : decode cX7_watch 94 = .ok (.iload_n 2, 1) := by decide +kernel
theorem dX7_watch_95 : decode cX7_watch 95 = .ok (.ifCond .ne 7, 3) := by decide +kernel
theorem dX7_watch_98 : decode cX7_watch 98 = .ok (.iload_n 3, 1) := by decide +kernel
theorem dX7_watch_99 : decode cX7_watch 99 = .ok (.goto 5, 3) := by decide +kernel
theorem dX7_watch_102 : decode cX7_watch 102 = .ok (.bipush (-4), 2) := by decide +kernel
theorem dX7_watch_104 : decode cX7_watch 104 = .ok (.ireturn, 1) := by decide +kernel
theorem dX7_lost_0 : decode cX7_lost 0 = .ok (.iload_n 1, 1) := by decide +kernel
theorem dX7_lost_1 : decode cX7_lost 1 = .ok (.iconst 2, 1) := by decide +kernel
theorem dX7_lost_2 : decode cX7_lost 2 = .ok (.invokestatic 94, 3) := by decide +kernel
theorem dX7_lost_5 : decode cX7_lost 5 = .ok (.ifCond .ne 5, 3) := by decide +kernel
theorem dX7_lost_8 : decode cX7_lost 8 = .ok (.iconst (-1), 1) := by decide +kernel
theorem dX7_lost_9 : decode cX7_lost 9 = .ok (.ireturn, 1) := by decide +kernel
theorem dX7_lost_10 : decode cX7_lost 10 = .ok (.aload_n 0, 1) := by decide +kernel
theorem dX7_lost_11 : decode cX7_lost 11 = .ok (.getfield 26, 3) := by decide +kernel
theorem dX7_lost_14 : decode cX7_lost 14 = .ok (.getfield 235, 3) := by decide +kernel
theorem dX7_lost_17 : decode cX7_lost 17 = .ok (.ifCond .ne 6, 3) := by decide +kernel
theorem dX7_lost_20 : decode cX7_lost 20 = .ok (.bipush (-2), 2) := by decide +kernel
theorem dX7_lost_22 : decode cX7_lost 22 = .ok (.ireturn, 1) := by decide +kernel
theorem dX7_lost_23 : decode cX7_lost 23 = .ok (.iconst 0, 1) := by decide +kernel
theorem dX7_lost_24 : decode cX7_lost 24 = .ok (.istore_n 2, 1) := by decide +kernel
theorem dX7_lost_25 : decode cX7_lost 25 = .ok (.iconst 0, 1) := by decide +kernel
theorem dX7_lost_26 : decode cX7_lost 26 = .ok (.istore_n 3, 1) := by decide +kernel
theorem dX7_lost_27 : decode cX7_lost 27 = .ok (.iload_n 3, 1) := by decide +kernel
theorem dX7_lost_28 : decode cX7_lost 28 = .ok (.bipush 81, 2) := by decide +kernel
theorem dX7_lost_30 : decode cX7_lost 30 = .ok (.if_icmp .ge 38, 3) := by decide +kernel
theorem dX7_lost_33 : decode cX7_lost 33 = .ok (.aload_n 0, 1) := by decide +kernel
theorem dX7_lost_34 : decode cX7_lost 34 = .ok (.getfield 59, 3) := by decide +kernel
theorem dX7_lost_37 : decode cX7_lost 37 = .ok (.iload_n 3, 1) := by decide +kernel
theorem dX7_lost_38 : decode cX7_lost 38 = .ok (.invokevirtual 130, 3) := by decide +kernel
theorem dX7_lost_41 : decode cX7_lost 41 = .ok (.ifCond .eq 21, 3) := by decide +kernel
theorem dX7_lost_44 : decode cX7_lost 44 = .ok (.aload_n 0, 1) := by decide +kernel
theorem dX7_lost_45 : decode cX7_lost 45 = .ok (.iload_n 3, 1) := by decide +kernel
theorem dX7_lost_46 : decode cX7_lost 46 = .ok (.invokevirtual 244, 3) := by decide +kernel
theorem dX7_lost_49 : decode cX7_lost 49 = .ok (.ifCond .eq 13, 3) := by decide +kernel
theorem dX7_lost_52 : decode cX7_lost 52 = .ok (.iload_n 1, 1) := by decide +kernel
theorem dX7_lost_53 : decode cX7_lost 53 = .ok (.iconst 1, 1) := by decide +kernel
theorem dX7_lost_54 : decode cX7_lost 54 = .ok (.if_icmp .ne 5, 3) := by decide +kernel
theorem dX7_lost_57 : decode cX7_lost 57 = .ok (.iload_n 3, 1) := by decide +kernel
theorem dX7_lost_58 : decode cX7_lost 58 = .ok (.ireturn, 1) := by decide +kernel
theorem dX7_lost_59 : decode cX7_lost 59 = .ok (.iinc 2 1, 3) := by decide +kernel
theorem dX7_lost_62 : decode cX7_lost 62 = .ok (.iinc 3 1, 3) := by decide +kernel
theorem dX7_lost_65 : decode cX7_lost 65 = .ok (.goto (-38), 3) := by decide +kernel
theorem dX7_lost_68 : decode cX7_lost 68 = .ok (.iload_n 1, 1) := by decide +kernel
theorem dX7_lost_69 : decode cX7_lost 69 = .ok (.ifCond .ne 7, 3) := by decide +kernel
theorem dX7_lost_72 : decode cX7_lost 72 = .ok (.iload_n 2, 1) := by decide +kernel
theorem dX7_lost_73 : decode cX7_lost 73 = .ok (.goto 5, 3) := by decide +kernel
theorem dX7_lost_76 : decode cX7_lost 76 = .ok (.bipush (-4), 2) := by decide +kernel
theorem dX7_lost_78 : decode cX7_lost 78 = .ok (.ireturn, 1) := by decide +kernel
theorem dX7_fits_0 : decode cX7_fits 0 = .ok (.aload_n 0, 1) := by decide +kernel
theorem dX7_fits_1 : decode cX7_fits 1 = .ok (.getfield 59, 3) := by decide +kernel
theorem dX7_fits_4 : decode cX7_fits 4 = .ok (.iload_n 1, 1) := by decide +kernel
theorem dX7_fits_5 : decode cX7_fits 5 = .ok (.invokevirtual 130, 3) := by decide +kernel
theorem dX7_fits_8 : decode cX7_fits 8 = .ok (.ifCond .ne 5, 3) := by decide +kernel
theorem dX7_fits_11 : decode cX7_fits 11 = .ok (.iconst (-1), 1) := by decide +kernel
theorem dX7_fits_12 : decode cX7_fits 12 = .ok (.ireturn, 1) := by decide +kernel
theorem dX7_fits_13 : decode cX7_fits 13 = .ok (.aload_n 0, 1) := by decide +kernel
theorem dX7_fits_14 : decode cX7_fits 14 = .ok (.getfield 26, 3) := by decide +kernel
theorem dX7_fits_17 : decode cX7_fits 17 = .ok (.getfield 235, 3) := by decide +kernel
theorem dX7_fits_20 : decode cX7_fits 20 = .ok (.ifCond .ne 6, 3) := by decide +kernel
theorem dX7_fits_23 : decode cX7_fits 23 = .ok (.bipush (-2), 2) := by decide +kernel
theorem dX7_fits_25 : decode cX7_fits 25 = .ok (.ireturn, 1) := by decide +kernel
theorem dX7_fits_26 : decode cX7_fits 26 = .ok (.iconst 0, 1) := by decide +kernel
theorem dX7_fits_27 : decode cX7_fits 27 = .ok (.istore_n 2, 1) := by decide +kernel
theorem dX7_fits_28 : decode cX7_fits 28 = .ok (.iconst 0, 1) := by decide +kernel
theorem dX7_fits_29 : decode cX7_fits 29 = .ok (.istore_n 3, 1) := by decide +kernel
theorem dX7_fits_30 : decode cX7_fits 30 = .ok (.iload_n 3, 1) := by decide +kernel
theorem dX7_fits_31 : decode cX7_fits 31 = .ok (.aload_n 0, 1) := by decide +kernel
theorem dX7_fits_32 : decode cX7_fits 32 = .ok (.getfield 26, 3) := by decide +kernel
theorem dX7_fits_35 : decode cX7_fits 35 = .ok (.getfield 235, 3) := by decide +kernel
theorem dX7_fits_38 : decode cX7_fits 38 = .ok (.if_icmp .ge 21, 3) := by decide +kernel
theorem dX7_fits_41 : decode cX7_fits 41 = .ok (.aload_n 0, 1) := by decide +kernel
theorem dX7_fits_42 : decode cX7_fits 42 = .ok (.iload_n 3, 1) := by decide +kernel
theorem dX7_fits_43 : decode cX7_fits 43 = .ok (.iload_n 1, 1) := by decide +kernel
theorem dX7_fits_44 : decode cX7_fits 44 = .ok (.invokevirtual 247, 3) := by decide +kernel
theorem dX7_fits_47 : decode cX7_fits 47 = .ok (.ifCond .ne 6, 3) := by decide +kernel
theorem dX7_fits_50 : decode cX7_fits 50 = .ok (.iinc 2 1, 3) := by decide +kernel
theorem dX7_fits_53 : decode cX7_fits 53 = .ok (.iinc 3 1, 3) := by decide +kernel
theorem dX7_fits_56 : decode cX7_fits 56 = .ok (.goto (-26), 3) := by decide +kernel
theorem dX7_fits_59 : decode cX7_fits 59 = .ok (.iload_n 2, 1) := by decide +kernel
theorem dX7_fits_60 : decode cX7_fits 60 = .ok (.ireturn, 1) := by decide +kernel
theorem dX7_keep_0 : decode cX7_keep 0 = .ok (.iload_n 1, 1) := by decide +kernel
theorem dX7_keep_1 : decode cX7_keep 1 = .ok (.iconst 2, 1) := by decide +kernel
theorem dX7_keep_2 : decode cX7_keep 2 = .ok (.invokestatic 94, 3) := by decide +kernel
theorem dX7_keep_5 : decode cX7_keep 5 = .ok (.ifCond .ne 5, 3) := by decide +kernel
theorem dX7_keep_8 : decode cX7_keep 8 = .ok (.iconst (-1), 1) := by decide +kernel
theorem dX7_keep_9 : decode cX7_keep 9 = .ok (.ireturn, 1) := by decide +kernel
theorem dX7_keep_10 : decode cX7_keep 10 = .ok (.aload_n 0, 1) := by decide +kernel
theorem dX7_keep_11 : decode cX7_keep 11 = .ok (.getfield 39, 3) := by decide +kernel
theorem dX7_keep_14 : decode cX7_keep 14 = .ok (.iload_n 1, 1) := by decide +kernel
theorem dX7_keep_15 : decode cX7_keep 15 = .ok (.aaload, 1) := by decide +kernel
theorem dX7_keep_16 : decode cX7_keep 16 = .ok (.getfield 90, 3) := by decide +kernel
theorem dX7_keep_19 : decode cX7_keep 19 = .ok (.istore_n 2, 1) := by decide +kernel
theorem dX7_keep_20 : decode cX7_keep 20 = .ok (.aload_n 0, 1) := by decide +kernel
theorem dX7_keep_21 : decode cX7_keep 21 = .ok (.getfield 39, 3) := by decide +kernel
theorem dX7_keep_24 : decode cX7_keep 24 = .ok (.iload_n 1, 1) := by decide +kernel
theorem dX7_keep_25 : decode cX7_keep 25 = .ok (.aaload, 1) := by decide +kernel
theorem dX7_keep_26 : decode cX7_keep 26 = .ok (.aload_n 0, 1) := by decide +kernel
theorem dX7_keep_27 : decode cX7_keep 27 = .ok (.getfield 59, 3) := by decide +kernel
theorem dX7_keep_30 : decode cX7_keep 30 = .ok (.aload_n 0, 1) := by decide +kernel
theorem dX7_keep_31 : decode cX7_keep 31 = .ok (.getfield 26, 3) := by decide +kernel
theorem dX7_keep_34 : decode cX7_keep 34 = .ok (.invokevirtual 250, 3) := by decide +kernel
theorem dX7_keep_37 : decode cX7_keep 37 = .ok (.iload_n 2, 1) := by decide +kernel
theorem dX7_keep_38 : decode cX7_keep 38 = .ok (.ifCond .eq 7, 3) := by decide +kernel
theorem dX7_keep_41 : decode cX7_keep 41 = .ok (.iconst 1, 1) := by decide +kernel
theorem dX7_keep_42 : decode cX7_keep 42 = .ok (.goto 4, 3) := by decide +kernel
theorem dX7_keep_45 : decode cX7_keep 45 = .ok (.iconst 0, 1) := by decide +kernel
theorem dX7_keep_46 : decode cX7_keep 46 = .ok (.ireturn, 1) := by decide +kernel
theorem dX7_back_0 : decode cX7_back 0 = .ok (.iload_n 1, 1) := by decide +kernel
theorem dX7_back_1 : decode cX7_back 1 = .ok (.iconst 2, 1) := by decide +kernel
theorem dX7_back_2 : decode cX7_back 2 = .ok (.invokestatic 94, 3) := by decide +kernel
theorem dX7_back_5 : decode cX7_back 5 = .ok (.ifCond .ne 5, 3) := by decide +kernel
theorem dX7_back_8 : decode cX7_back 8 = .ok (.iconst (-1), 1) := by decide +kernel
theorem dX7_back_9 : decode cX7_back 9 = .ok (.ireturn, 1) := by decide +kernel
theorem dX7_back_10 : decode cX7_back 10 = .ok (.aload_n 0, 1) := by decide +kernel
theorem dX7_back_11 : decode cX7_back 11 = .ok (.getfield 39, 3) := by decide +kernel
theorem dX7_back_14 : decode cX7_back 14 = .ok (.iload_n 1, 1) := by decide +kernel
theorem dX7_back_15 : decode cX7_back 15 = .ok (.aaload, 1) := by decide +kernel
theorem dX7_back_16 : decode cX7_back 16 = .ok (.getfield 90, 3) := by decide +kernel
theorem dX7_back_19 : decode cX7_back 19 = .ok (.ifCond .ne 6, 3) := by decide +kernel
theorem dX7_back_22 : decode cX7_back 22 = .ok (.bipush (-2), 2) := by decide +kernel
theorem dX7_back_24 : decode cX7_back 24 = .ok (.ireturn, 1) := by decide +kernel
theorem dX7_back_25 : decode cX7_back 25 = .ok (.aload_n 0, 1) := by decide +kernel
theorem dX7_back_26 : decode cX7_back 26 = .ok (.getfield 39, 3) := by decide +kernel
theorem dX7_back_29 : decode cX7_back 29 = .ok (.iload_n 1, 1) := by decide +kernel
theorem dX7_back_30 : decode cX7_back 30 = .ok (.aaload, 1) := by decide +kernel
theorem dX7_back_31 : decode cX7_back 31 = .ok (.aload_n 0, 1) := by decide +kernel
theorem dX7_back_32 : decode cX7_back 32 = .ok (.getfield 59, 3) := by decide +kernel
theorem dX7_back_35 : decode cX7_back 35 = .ok (.aload_n 0, 1) := by decide +kernel
theorem dX7_back_36 : decode cX7_back 36 = .ok (.getfield 26, 3) := by decide +kernel
theorem dX7_back_39 : decode cX7_back 39 = .ok (.invokevirtual 254, 3) := by decide +kernel
theorem dX7_back_42 : decode cX7_back 42 = .ok (.aload_n 0, 1) := by decide +kernel
theorem dX7_back_43 : decode cX7_back 43 = .ok (.getfield 26, 3) := by decide +kernel
theorem dX7_back_46 : decode cX7_back 46 = .ok (.getfield 144, 3) := by decide +kernel
theorem dX7_back_49 : decode cX7_back 49 = .ok (.ireturn, 1) := by decide +kernel
theorem dX7_sheet_0 : decode cX7_sheet 0 = .ok (.iload_n 1, 1) := by decide +kernel
theorem dX7_sheet_1 : decode cX7_sheet 1 = .ok (.iconst 4, 1) := by decide +kernel
theorem dX7_sheet_2 : decode cX7_sheet 2 = .ok (.invokestatic 94, 3) := by decide +kernel
theorem dX7_sheet_5 : decode cX7_sheet 5 = .ok (.ifCond .eq 17, 3) := by decide +kernel
theorem dX7_sheet_8 : decode cX7_sheet 8 = .ok (.iload_n 2, 1) := by decide +kernel
theorem dX7_sheet_9 : decode cX7_sheet 9 = .ok (.iconst 3, 1) := by decide +kernel
theorem dX7_sheet_10 : decode cX7_sheet 10 = .ok (.invokestatic 94, 3) := by decide +kernel
theorem dX7_sheet_13 : decode cX7_sheet 13 = .ok (.ifCond .eq 9, 3) := by decide +kernel
theorem dX7_sheet_16 : decode cX7_sheet 16 = .ok (.iload_n 3, 1) := by decide +kernel
theorem dX7_sheet_17 : decode cX7_sheet 17 = .ok (.bipush 40, 2) := by decide +kernel
theorem dX7_sheet_19 : decode cX7_sheet 19 = .ok (.if_icmp .le 5, 3) := by decide +kernel
theorem dX7_sheet_22 : decode cX7_sheet 22 = .ok (.iconst (-1), 1) := by decide +kernel
theorem dX7_sheet_23 : decode cX7_sheet 23 = .ok (.ireturn, 1) := by decide +kernel
theorem dX7_sheet_24 : decode cX7_sheet 24 = .ok (.iload_n 3, 1) := by decide +kernel
theorem dX7_sheet_25 : decode cX7_sheet 25 = .ok (.ifCond .ge 6, 3) := by decide +kernel
theorem dX7_sheet_28 : decode cX7_sheet 28 = .ok (.bipush (-14), 2) := by decide +kernel
theorem dX7_sheet_30 : decode cX7_sheet 30 = .ok (.ireturn, 1) := by decide +kernel
theorem dX7_sheet_31 : decode cX7_sheet 31 = .ok (.aload_n 0, 1) := by decide +kernel
theorem dX7_sheet_32 : decode cX7_sheet 32 = .ok (.getfield 45, 3) := by decide +kernel
theorem dX7_sheet_35 : decode cX7_sheet 35 = .ok (.iload_n 1, 1) := by decide +kernel
theorem dX7_sheet_36 : decode cX7_sheet 36 = .ok (.aaload, 1) := by decide +kernel
theorem dX7_sheet_37 : decode cX7_sheet 37 = .ok (.iload_n 2, 1) := by decide +kernel
theorem dX7_sheet_38 : decode cX7_sheet 38 = .ok (.iload_n 3, 1) := by decide +kernel
theorem dX7_sheet_39 : decode cX7_sheet 39 = .ok (.invokevirtual 257, 3) := by decide +kernel
theorem dX7_sheet_42 : decode cX7_sheet 42 = .ok (.iconst 1, 1) := by decide +kernel
theorem dX7_sheet_43 : decode cX7_sheet 43 = .ok (.ireturn, 1) := by decide +kernel
theorem dX7_lay_0 : decode cX7_lay 0 = .ok (.iload_n 1, 1) := by decide +kernel
theorem dX7_lay_1 : decode cX7_lay 1 = .ok (.iconst 4, 1) := by decide +kernel
theorem dX7_lay_2 : decode cX7_lay 2 = .ok (.invokestatic 94, 3) := by decide +kernel
theorem dX7_lay_5 : decode cX7_lay 5 = .ok (.ifCond .ne 5, 3) := by decide +kernel
theorem dX7_lay_8 : decode cX7_lay 8 = .ok (.iconst (-1), 1) := by decide +kernel
theorem dX7_lay_9 : decode cX7_lay 9 = .ok (.ireturn, 1) := by decide +kernel
theorem dX7_lay_10 : decode cX7_lay 10 = .ok (.aload_n 0, 1) := by decide +kernel
theorem dX7_lay_11 : decode cX7_lay 11 = .ok (.getfield 45, 3) := by decide +kernel
theorem dX7_lay_14 : decode cX7_lay 14 = .ok (.iload_n 1, 1) := by decide +kernel
theorem dX7_lay_15 : decode cX7_lay 15 = .ok (.aaload, 1) := by decide +kernel
theorem dX7_lay_16 : decode cX7_lay 16 = .ok (.astore 4, 2) := by decide +kernel
theorem dX7_lay_18 : decode cX7_lay 18 = .ok (.aload 4, 2) := by decide +kernel
theorem dX7_lay_20 : decode cX7_lay 20 = .ok (.invokevirtual 260, 3) := by decide +kernel
theorem dX7_lay_23 : decode cX7_lay 23 = .ok (.ifCond .eq 6, 3) := by decide +kernel
theorem dX7_lay_26 : decode cX7_lay 26 = .ok (.bipush (-11), 2) := by decide +kernel
theorem dX7_lay_28 : decode cX7_lay 28 = .ok (.ireturn, 1) := by decide +kernel
theorem dX7_lay_29 : decode cX7_lay 29 = .ok (.iload_n 2, 1) := by decide +kernel
theorem dX7_lay_30 : decode cX7_lay 30 = .ok (.aload 4, 2) := by decide +kernel
theorem dX7_lay_32 : decode cX7_lay 32 = .ok (.getfield 263, 3) := by decide +kernel
theorem dX7_lay_35 : decode cX7_lay 35 = .ok (.invokestatic 94, 3) := by decide +kernel
theorem dX7_lay_38 : decode cX7_lay 38 = .ok (.ifCond .ne 6, 3) := by decide +kernel
theorem dX7_lay_41 : decode cX7_lay 41 = .ok (.bipush (-12), 2) := by decide +kernel
theorem dX7_lay_43 : decode cX7_lay 43 = .ok (.ireturn, 1) := by decide +kernel
theorem dX7_lay_44 : decode cX7_lay 44 = .ok (.aload 4, 2) := by decide +kernel
theorem dX7_lay_46 : decode cX7_lay 46 = .ok (.iload_n 2, 1) := by decide +kernel
theorem dX7_lay_47 : decode cX7_lay 47 = .ok (.iload_n 3, 1) := by decide +kernel
theorem dX7_lay_48 : decode cX7_lay 48 = .ok (.invokevirtual 266, 3) := by decide +kernel
theorem dX7_lay_51 : decode cX7_lay 51 = .ok (.iconst 1, 1) := by decide +kernel
theorem dX7_lay_52 : decode cX7_lay 52 = .ok (.ireturn, 1) := by decide +kernel
theorem dX7_read_0 : decode cX7_read 0 = .ok (.iload_n 1, 1) := by decide +kernel
theorem dX7_read_1 : decode cX7_read 1 = .ok (.iconst 4, 1) := by decide +kernel
theorem dX7_read_2 : decode cX7_read 2 = .ok (.invokestatic 94, 3) := by decide +kernel
theorem dX7_read_5 : decode cX7_read 5 = .ok (.ifCond .eq 23, 3) := by decide +kernel
theorem dX7_read_8 : decode cX7_read 8 = .ok (.iload_n 2, 1) := by decide +kernel
theorem dX7_read_9 : decode cX7_read 9 = .ok (.iconst 3, 1) := by decide +kernel
theorem dX7_read_10 : decode cX7_read 10 = .ok (.invokestatic 94, 3) := by decide +kernel
theorem dX7_read_13 : decode cX7_read 13 = .ok (.ifCond .eq 15, 3) := by decide +kernel
theorem dX7_read_16 : decode cX7_read 16 = .ok (.iload 4, 2) := by decide +kernel
theorem dX7_read_18 : decode cX7_read 18 = .ok (.ifCond .lt 10, 3) := by decide +kernel
theorem dX7_read_21 : decode cX7_read 21 = .ok (.iload 4, 2) := by decide +kernel
theorem dX7_read_23 : decode cX7_read 23 = .ok (.bipush 13, 2) := by decide +kernel
theorem dX7_read_25 : decode cX7_read 25 = .ok (.if_icmp .le 5, 3) := by decide +kernel
theorem dX7_read_28 : decode cX7_read 28 = .ok (.iconst (-1), 1) := by decide +kernel
theorem dX7_read_29 : decode cX7_read 29 = .ok (.ireturn, 1) := by decide +kernel
theorem dX7_read_30 : decode cX7_read 30 = .ok (.aload_n 0, 1) := by decide +kernel
theorem dX7_read_31 : decode cX7_read 31 = .ok (.getfield 45, 3) := by decide +kernel
theorem dX7_read_34 : decode cX7_read 34 = .ok (.iload_n 1, 1) := by decide +kernel
theorem dX7_read_35 : decode cX7_read 35 = .ok (.aaload, 1) := by decide +kernel
theorem dX7_read_36 : decode cX7_read 36 = .ok (.astore 5, 2) := by decide +kernel
theorem dX7_read_38 : decode cX7_read 38 = .ok (.aload_n 0, 1) := by decide +kernel
theorem dX7_read_39 : decode cX7_read 39 = .ok (.getfield 26, 3) := by decide +kernel
theorem dX7_read_42 : decode cX7_read 42 = .ok (.getfield 144, 3) := by decide +kernel
theorem dX7_read_45 : decode cX7_read 45 = .ok (.istore 6, 2) := by decide +kernel
theorem dX7_read_47 : decode cX7_read 47 = .ok (.iload 4, 2) := by decide +kernel
theorem dX7_read_49 : decode cX7_read 49 = .ok (.ifCond .ne 7, 3) := by decide +kernel
theorem dX7_read_52 : decode cX7_read 52 = .ok (.iconst 0, 1) := by decide +kernel
theorem dX7_read_53 : decode cX7_read 53 = .ok (.goto 9, 3) := by decide +kernel
theorem dX7_read_56 : decode cX7_read 56 = .ok (.aload 5, 2) := by decide +kernel
theorem dX7_read_58 : decode cX7_read 58 = .ok (.iload_n 2, 1) := by decide +kernel
theorem dX7_read_59 : decode cX7_read 59 = .ok (.invokevirtual 268, 3) := by decide +kernel
theorem dX7_read_62 : decode cX7_read 62 = .ok (.istore 7, 2) := by decide +kernel
theorem dX7_read_64 : decode cX7_read 64 = .ok (.iload 7, 2) := by decide +kernel
theorem dX7_read_66 : decode cX7_read 66 = .ok (.ifCond .eq 11, 3) := by decide +kernel
theorem dX7_read_69 : decode cX7_read 69 = .ok (.aload_n 0, 1) := by decide +kernel
theorem dX7_read_70 : decode cX7_read 70 = .ok (.iload 7, 2) := by decide +kernel
theorem dX7_read_72 : decode cX7_read 72 = .ok (.putfield 271, 3) := by decide +kernel
theorem dX7_read_75 : decode cX7_read 75 = .ok (.iconst 0, 1) := by decide +kernel
theorem dX7_read_76 : decode cX7_read 76 = .ok (.ireturn, 1) := by decide +kernel
theorem dX7_read_77 : decode cX7_read 77 = .ok (.iconst 0, 1) := by decide +kernel

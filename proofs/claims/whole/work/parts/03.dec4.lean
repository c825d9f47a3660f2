theorem dX8_right_0 : decode cX8_right 0 = .ok (.aload_n 0, 1) := by decide +kernel
theorem dX8_right_1 : decode cX8_right 1 = .ok (.iload_n 1, 1) := by decide +kernel
theorem dX8_right_2 : decode cX8_right 2 = .ok (.invokevirtual 190, 3) := by decide +kernel
theorem dX8_right_5 : decode cX8_right 5 = .ok (.ifCond .ne 5, 3) := by decide +kernel
theorem dX8_right_8 : decode cX8_right 8 = .ok (.iconst (-1), 1) := by decide +kernel
theorem dX8_right_9 : decode cX8_right 9 = .ok (.ireturn, 1) := by decide +kernel
theorem dX8_right_10 : decode cX8_right 10 = .ok (.aload_n 0, 1) := by decide +kernel
theorem dX8_right_11 : decode cX8_right 11 = .ok (.getfield 156, 3) := by decide +kernel
theorem dX8_right_14 : decode cX8_right 14 = .ok (.ifCond .ne 8, 3) := by decide +kernel
theorem dX8_right_17 : decode cX8_right 17 = .ok (.bipush (-2), 2) := by decide +kernel
theorem dX8_right_19 : decode cX8_right 19 = .ok (.goto 8, 3) := by decide +kernel
theorem dX8_right_22 : decode cX8_right 22 = .ok (.aload_n 0, 1) := by decide +kernel
theorem dX8_right_23 : decode cX8_right 23 = .ok (.iload_n 1, 1) := by decide +kernel
theorem dX8_right_24 : decode cX8_right 24 = .ok (.invokevirtual 235, 3) := by decide +kernel
theorem dX8_right_27 : decode cX8_right 27 = .ok (.ireturn, 1) := by decide +kernel
theorem dX8_rights_0 : decode cX8_rights 0 = .ok (.aload_n 0, 1) := by decide +kernel
theorem dX8_rights_1 : decode cX8_rights 1 = .ok (.invokevirtual 168, 3) := by decide +kernel
theorem dX8_rights_4 : decode cX8_rights 4 = .ok (.iload_n 1, 1) := by decide +kernel
theorem dX8_rights_5 : decode cX8_rights 5 = .ok (.i2l, 1) := by decide +kernel
theorem dX8_rights_6 : decode cX8_rights 6 = .ok (.lconst 0, 1) := by decide +kernel
theorem dX8_rights_7 : decode cX8_rights 7 = .ok (.lconst 1, 1) := by decide +kernel
theorem dX8_rights_8 : decode cX8_rights 8 = .ok (.invokestatic 79, 3) := by decide +kernel
theorem dX8_rights_11 : decode cX8_rights 11 = .ok (.ifCond .ne 5, 3) := by decide +kernel
theorem dX8_rights_14 : decode cX8_rights 14 = .ok (.iconst (-1), 1) := by decide +kernel
theorem dX8_rights_15 : decode cX8_rights 15 = .ok (.ireturn, 1) := by decide +kernel
theorem dX8_rights_16 : decode cX8_rights 16 = .ok (.aload_n 0, 1) := by decide +kernel
theorem dX8_rights_17 : decode cX8_rights 17 = .ok (.getfield 156, 3) := by decide +kernel
theorem dX8_rights_20 : decode cX8_rights 20 = .ok (.ifCond .ne 6, 3) := by decide +kernel
theorem dX8_rights_23 : decode cX8_rights 23 = .ok (.bipush (-2), 2) := by decide +kernel
theorem dX8_rights_25 : decode cX8_rights 25 = .ok (.ireturn, 1) := by decide +kernel
theorem dX8_rights_26 : decode cX8_rights 26 = .ok (.iconst 0, 1) := by decide +kernel
theorem dX8_rights_27 : decode cX8_rights 27 = .ok (.istore_n 2, 1) := by decide +kernel
theorem dX8_rights_28 : decode cX8_rights 28 = .ok (.bipush (-4), 2) := by decide +kernel
theorem dX8_rights_30 : decode cX8_rights 30 = .ok (.istore_n 3, 1) := by decide +kernel
theorem dX8_rights_31 : decode cX8_rights 31 = .ok (.iconst 0, 1) := by decide +kernel
theorem dX8_rights_32 : decode cX8_rights 32 = .ok (.istore 4, 2) := by decide +kernel
theorem dX8_rights_34 : decode cX8_rights 34 = .ok (.iload 4, 2) := by decide +kernel
theorem dX8_rights_36 : decode cX8_rights 36 = .ok (.bipush 81, 2) := by decide +kernel
theorem dX8_rights_38 : decode cX8_rights 38 = .ok (.if_icmp .ge 43, 3) := by decide +kernel
theorem dX8_rights_41 : decode cX8_rights 41 = .ok (.aload_n 0, 1) := by decide +kernel
theorem dX8_rights_42 : decode cX8_rights 42 = .ok (.iload 4, 2) := by decide +kernel
theorem dX8_rights_44 : decode cX8_rights 44 = .ok (.invokevirtual 190, 3) := by decide +kernel
theorem dX8_rights_47 : decode cX8_rights 47 = .ok (.ifCond .eq 28, 3) := by decide +kernel
theorem dX8_rights_50 : decode cX8_rights 50 = .ok (.aload_n 0, 1) := by decide +kernel
theorem dX8_rights_51 : decode cX8_rights 51 = .ok (.iload 4, 2) := by decide +kernel
theorem dX8_rights_53 : decode cX8_rights 53 = .ok (.invokevirtual 235, 3) := by decide +kernel
theorem dX8_rights_56 : decode cX8_rights 56 = .ok (.bipush (-4), 2) := by decide +kernel
theorem dX8_rights_58 : decode cX8_rights 58 = .ok (.if_icmp .eq 17, 3) := by decide +kernel
theorem dX8_rights_61 : decode cX8_rights 61 = .ok (.iload_n 2, 1) := by decide +kernel
theorem dX8_rights_62 : decode cX8_rights 62 = .ok (.ifCond .ne 8, 3) := by decide +kernel
theorem dX8_rights_65 : decode cX8_rights 65 = .ok (.iload 4, 2) := by decide +kernel
theorem dX8_rights_67 : decode cX8_rights 67 = .ok (.goto 4, 3) := by decide +kernel
theorem dX8_rights_70 : decode cX8_rights 70 = .ok (.iload_n 3, 1) := by decide +kernel
theorem dX8_rights_71 : decode cX8_rights 71 = .ok (.istore_n 3, 1) := by decide +kernel
theorem dX8_rights_72 : decode cX8_rights 72 = .ok (.iinc 2 1, 3) := by decide +kernel
theorem dX8_rights_75 : decode cX8_rights 75 = .ok (.iinc 4 1, 3) := by decide +kernel
theorem dX8_rights_78 : decode cX8_rights 78 = .ok (.goto (-44), 3) := by decide +kernel
theorem dX8_rights_81 : decode cX8_rights 81 = .ok (.iload_n 1, 1) := by decide +kernel
theorem dX8_rights_82 : decode cX8_rights 82 = .ok (.ifCond .ne 7, 3) := by decide +kernel
theorem dX8_rights_85 : decode cX8_rights 85 = .ok (.iload_n 2, 1) := by decide +kernel
theorem dX8_rights_86 : decode cX8_rights 86 = .ok (.goto 4, 3) := by decide +kernel
theorem dX8_rights_89 : decode cX8_rights 89 = .ok (.iload_n 3, 1) := by decide +kernel
theorem dX8_rights_90 : decode cX8_rights 90 = .ok (.ireturn, 1) := by decide +kernel
theorem dX8_areLike_0 : decode cX8_areLike 0 = .ok (.aload_n 0, 1) := by decide +kernel
theorem dX8_areLike_1 : decode cX8_areLike 1 = .ok (.invokevirtual 181, 3) := by decide +kernel
theorem dX8_areLike_4 : decode cX8_areLike 4 = .ok (.aload_n 0, 1) := by decide +kernel
theorem dX8_areLike_5 : decode cX8_areLike 5 = .ok (.getfield 156, 3) := by decide +kernel
theorem dX8_areLike_8 : decode cX8_areLike 8 = .ok (.if_icmp .ne 14, 3) := by decide +kernel
theorem dX8_areLike_11 : decode cX8_areLike 11 = .ok (.aload_n 0, 1) := by decide +kernel
theorem dX8_areLike_12 : decode cX8_areLike 12 = .ok (.getfield 156, 3) := by decide +kernel
theorem dX8_areLike_15 : decode cX8_areLike 15 = .ok (.ifCond .le 7, 3) := by decide +kernel
theorem dX8_areLike_18 : decode cX8_areLike 18 = .ok (.iconst 1, 1) := by decide +kernel
theorem dX8_areLike_19 : decode cX8_areLike 19 = .ok (.goto 4, 3) := by decide +kernel
theorem dX8_areLike_22 : decode cX8_areLike 22 = .ok (.iconst 0, 1) := by decide +kernel
theorem dX8_areLike_23 : decode cX8_areLike 23 = .ok (.istore_n 1, 1) := by decide +kernel
theorem dX8_areLike_24 : decode cX8_areLike 24 = .ok (.iconst 0, 1) := by decide +kernel
theorem dX8_areLike_25 : decode cX8_areLike 25 = .ok (.istore_n 2, 1) := by decide +kernel
theorem dX8_areLike_26 : decode cX8_areLike 26 = .ok (.iload_n 2, 1) := by decide +kernel
theorem dX8_areLike_27 : decode cX8_areLike 27 = .ok (.aload_n 0, 1) := by decide +kernel
theorem dX8_areLike_28 : decode cX8_areLike 28 = .ok (.getfield 156, 3) := by decide +kernel
theorem dX8_areLike_31 : decode cX8_areLike 31 = .ok (.if_icmp .ge 37, 3) := by decide +kernel
theorem dX8_areLike_34 : decode cX8_areLike 34 = .ok (.iload_n 1, 1) := by decide +kernel
theorem dX8_areLike_35 : decode cX8_areLike 35 = .ok (.ifCond .eq 33, 3) := by decide +kernel
theorem dX8_areLike_38 : decode cX8_areLike 38 = .ok (.aload_n 0, 1) := by decide +kernel
theorem dX8_areLike_39 : decode cX8_areLike 39 = .ok (.iload_n 2, 1) := by decide +kernel
theorem dX8_areLike_40 : decode cX8_areLike 40 = .ok (.invokevirtual 187, 3) := by decide +kernel
theorem dX8_areLike_43 : decode cX8_areLike 43 = .ok (.aload_n 0, 1) := by decide +kernel
theorem dX8_areLike_44 : decode cX8_areLike 44 = .ok (.getfield 19, 3) := by decide +kernel
theorem dX8_areLike_47 : decode cX8_areLike 47 = .ok (.iconst 2, 1) := by decide +kernel
theorem dX8_areLike_48 : decode cX8_areLike 48 = .ok (.iload_n 2, 1) := by decide +kernel
theorem dX8_areLike_49 : decode cX8_areLike 49 = .ok (.imul, 1) := by decide +kernel
theorem dX8_areLike_50 : decode cX8_areLike 50 = .ok (.iconst 1, 1) := by decide +kernel
theorem dX8_areLike_51 : decode cX8_areLike 51 = .ok (.iadd, 1) := by decide +kernel
theorem dX8_areLike_52 : decode cX8_areLike 52 = .ok (.iaload, 1) := by decide +kernel
theorem dX8_areLike_53 : decode cX8_areLike 53 = .ok (.if_icmp .ne 7, 3) := by decide +kernel
theorem dX8_areLike_56 : decode cX8_areLike 56 = .ok (.iconst 1, 1) := by decide +kernel
theorem dX8_areLike_57 : decode cX8_areLike 57 = .ok (.goto 4, 3) := by decide +kernel
theorem dX8_areLike_60 : decode cX8_areLike 60 = .ok (.iconst 0, 1) := by decide +kernel
theorem dX8_areLike_61 : decode cX8_areLike 61 = .ok (.istore_n 1, 1) := by decide +kernel
theorem dX8_areLike_62 : decode cX8_areLike 62 = .ok (.iinc 2 1, 3) := by decide +kernel
theorem dX8_areLike_65 : decode cX8_areLike 65 = .ok (.goto (-39), 3) := by decide +kernel
theorem dX8_areLike_68 : decode cX8_areLike 68 = .ok (.iload_n 1, 1) := by decide +kernel
theorem dX8_areLike_69 : decode cX8_areLike 69 = .ok (.ireturn, 1) := by decide +kernel
theorem dX8_offAt_0 : decode cX8_offAt 0 = .ok (.aload_n 0, 1) := by decide +kernel
theorem dX8_offAt_1 : decode cX8_offAt 1 = .ok (.iconst 0, 1) := by decide +kernel
theorem dX8_offAt_2 : decode cX8_offAt 2 = .ok (.iload_n 1, 1) := by decide +kernel
theorem dX8_offAt_3 : decode cX8_offAt 3 = .ok (.invokevirtual 220, 3) := by decide +kernel
theorem dX8_offAt_6 : decode cX8_offAt 6 = .ok (.aload_n 0, 1) := by decide +kernel
theorem dX8_offAt_7 : decode cX8_offAt 7 = .ok (.getfield 19, 3) := by decide +kernel
theorem dX8_offAt_10 : decode cX8_offAt 10 = .ok (.iconst 0, 1) := by decide +kernel
theorem dX8_offAt_11 : decode cX8_offAt 11 = .ok (.iaload, 1) := by decide +kernel
theorem dX8_offAt_12 : decode cX8_offAt 12 = .ok (.isub, 1) := by decide +kernel
theorem dX8_offAt_13 : decode cX8_offAt 13 = .ok (.istore_n 2, 1) := by decide +kernel
theorem dX8_offAt_14 : decode cX8_offAt 14 = .ok (.iload_n 2, 1) := by decide +kernel
theorem dX8_offAt_15 : decode cX8_offAt 15 = .ok (.istore_n 3, 1) := by decide +kernel
theorem dX8_offAt_16 : decode cX8_offAt 16 = .ok (.iconst 1, 1) := by decide +kernel
theorem dX8_offAt_17 : decode cX8_offAt 17 = .ok (.istore 4, 2) := by decide +kernel
theorem dX8_offAt_19 : decode cX8_offAt 19 = .ok (.iload 4, 2) := by decide +kernel
theorem dX8_offAt_21 : decode cX8_offAt 21 = .ok (.aload_n 0, 1) := by decide +kernel
theorem dX8_offAt_22 : decode cX8_offAt 22 = .ok (.getfield 156, 3) := by decide +kernel
theorem dX8_offAt_25 : decode cX8_offAt 25 = .ok (.if_icmp .ge 54, 3) := by decide +kernel
theorem dX8_offAt_28 : decode cX8_offAt 28 = .ok (.aload_n 0, 1) := by decide +kernel
theorem dX8_offAt_29 : decode cX8_offAt 29 = .ok (.iload 4, 2) := by decide +kernel
theorem dX8_offAt_31 : decode cX8_offAt 31 = .ok (.iload_n 1, 1) := by decide +kernel
theorem dX8_offAt_32 : decode cX8_offAt 32 = .ok (.invokevirtual 220, 3) := by decide +kernel
theorem dX8_offAt_35 : decode cX8_offAt 35 = .ok (.aload_n 0, 1) := by decide +kernel
theorem dX8_offAt_36 : decode cX8_offAt 36 = .ok (.getfield 19, 3) := by decide +kernel
theorem dX8_offAt_39 : decode cX8_offAt 39 = .ok (.iconst 2, 1) := by decide +kernel
theorem dX8_offAt_40 : decode cX8_offAt 40 = .ok (.iload 4, 2) := by decide +kernel
theorem dX8_offAt_42 : decode cX8_offAt 42 = .ok (.imul, 1) := by decide +kernel
theorem dX8_offAt_43 : decode cX8_offAt 43 = .ok (.iaload, 1) := by decide +kernel
theorem dX8_offAt_44 : decode cX8_offAt 44 = .ok (.isub, 1) := by decide +kernel
theorem dX8_offAt_45 : decode cX8_offAt 45 = .ok (.istore 5, 2) := by decide +kernel
theorem dX8_offAt_47 : decode cX8_offAt 47 = .ok (.iload 5, 2) := by decide +kernel
theorem dX8_offAt_49 : decode cX8_offAt 49 = .ok (.iload_n 2, 1) := by decide +kernel
theorem dX8_offAt_50 : decode cX8_offAt 50 = .ok (.if_icmp .ge 8, 3) := by decide +kernel
theorem dX8_offAt_53 : decode cX8_offAt 53 = .ok (.iload 5, 2) := by decide +kernel
theorem dX8_offAt_55 : decode cX8_offAt 55 = .ok (.goto 4, 3) := by decide +kernel
theorem dX8_offAt_58 : decode cX8_offAt 58 = .ok (.iload_n 2, 1) := by decide +kernel
theorem dX8_offAt_59 : decode cX8_offAt 59 = .ok (.istore_n 2, 1) := by decide +kernel
theorem dX8_offAt_60 : decode cX8_offAt 60 = .ok (.iload 5, 2) := by decide +kernel
theorem dX8_offAt_62 : decode cX8_offAt 62 = .ok (.iload_n 3, 1) := by decide +kernel
theorem dX8_offAt_63 : decode cX8_offAt 63 = .ok (.if_icmp .le 8, 3) := by decide +kernel
theorem dX8_offAt_66 : decode cX8_offAt 66 = .ok (.iload 5, 2) := by decide +kernel
theorem dX8_offAt_68 : decode cX8_offAt 68 = .ok (.goto 4, 3) := by decide +kernel
theorem dX8_offAt_71 : decode cX8_offAt 71 = .ok (.iload_n 3, 1) := by decide +kernel
theorem dX8_offAt_72 : decode cX8_offAt 72 = .ok (.istore_n 3, 1) := by decide +kernel
theorem dX8_offAt_73 : decode cX8_offAt 73 = .ok (.iinc 4 1, 3) := by decide +kernel
theorem dX8_offAt_76 : decode cX8_offAt 76 = .ok (.goto (-57), 3) := by decide +kernel
theorem dX8_offAt_79 : decode cX8_offAt 79 = .ok (.iload_n 3, 1) := by decide +kernel
theorem dX8_offAt_80 : decode cX8_offAt 80 = .ok (.iload_n 2, 1) := by decide +kernel
theorem dX8_offAt_81 : decode cX8_offAt 81 = .ok (.isub, 1) := by decide +kernel
theorem dX8_offAt_82 : decode cX8_offAt 82 = .ok (.ireturn, 1) := by decide +kernel
theorem dX8_off_0 : decode cX8_off 0 = .ok (.aload_n 0, 1) := by decide +kernel
theorem dX8_off_1 : decode cX8_off 1 = .ok (.iload_n 1, 1) := by decide +kernel
theorem dX8_off_2 : decode cX8_off 2 = .ok (.invokevirtual 190, 3) := by decide +kernel
theorem dX8_off_5 : decode cX8_off 5 = .ok (.ifCond .ne 5, 3) := by decide +kernel
theorem dX8_off_8 : decode cX8_off 8 = .ok (.iconst (-1), 1) := by decide +kernel
theorem dX8_off_9 : decode cX8_off 9 = .ok (.ireturn, 1) := by decide +kernel
theorem dX8_off_10 : decode cX8_off 10 = .ok (.aload_n 0, 1) := by decide +kernel
theorem dX8_off_11 : decode cX8_off 11 = .ok (.invokevirtual 238, 3) := by decide +kernel
theorem dX8_off_14 : decode cX8_off 14 = .ok (.ifCond .eq 11, 3) := by decide +kernel
theorem dX8_off_17 : decode cX8_off 17 = .ok (.aload_n 0, 1) := by decide +kernel
theorem dX8_off_18 : decode cX8_off 18 = .ok (.iload_n 1, 1) := by decide +kernel
theorem dX8_off_19 : decode cX8_off 19 = .ok (.invokevirtual 242, 3) := by decide +kernel
theorem dX8_off_22 : decode cX8_off 22 = .ok (.goto 5, 3) := by decide +kernel
theorem dX8_off_25 : decode cX8_off 25 = .ok (.bipush (-2), 2) := by decide +kernel
theorem dX8_off_27 : decode cX8_off 27 = .ok (.ireturn, 1) := by decide +kernel
theorem dX8_near_0 : decode cX8_near 0 = .ok (.aload_n 0, 1) := by decide +kernel
theorem dX8_near_1 : decode cX8_near 1 = .ok (.invokevirtual 168, 3) := by decide +kernel
theorem dX8_near_4 : decode cX8_near 4 = .ok (.iload_n 1, 1) := by decide +kernel
theorem dX8_near_5 : decode cX8_near 5 = .ok (.i2l, 1) := by decide +kernel
theorem dX8_near_6 : decode cX8_near 6 = .ok (.lconst 0, 1) := by decide +kernel
theorem dX8_near_7 : decode cX8_near 7 = .ok (.ldc2_w 245, 3) := by decide +kernel
theorem dX8_near_10 : decode cX8_near 10 = .ok (.invokestatic 79, 3) := by decide +kernel
theorem dX8_near_13 : decode cX8_near 13 = .ok (.ifCond .eq 15, 3) := by decide +kernel
theorem dX8_near_16 : decode cX8_near 16 = .ok (.iload_n 2, 1) := by decide +kernel
theorem dX8_near_17 : decode cX8_near 17 = .ok (.i2l, 1) := by decide +kernel
theorem dX8_near_18 : decode cX8_near 18 = .ok (.lconst 0, 1) := by decide +kernel
theorem dX8_near_19 : decode cX8_near 19 = .ok (.ldc2_w 177, 3) := by decide +kernel
theorem dX8_near_22 : decode cX8_near 22 = .ok (.invokestatic 79, 3) := by decide +kernel
theorem dX8_near_25 : decode cX8_near 25 = .ok (.ifCond .ne 5, 3) := by decide +kernel
theorem dX8_near_28 : decode cX8_near 28 = .ok (.iconst (-1), 1) := by decide +kernel
theorem dX8_near_29 : decode cX8_near 29 = .ok (.ireturn, 1) := by decide +kernel
theorem dX8_near_30 : decode cX8_near 30 = .ok (.aload_n 0, 1) := by decide +kernel
theorem dX8_near_31 : decode cX8_near 31 = .ok (.invokevirtual 238, 3) := by decide +kernel
theorem dX8_near_34 : decode cX8_near 34 = .ok (.ifCond .ne 6, 3) := by decide +kernel
theorem dX8_near_37 : decode cX8_near 37 = .ok (.bipush (-2), 2) := by decide +kernel
theorem dX8_near_39 : decode cX8_near 39 = .ok (.ireturn, 1) := by decide +kernel
theorem dX8_near_40 : decode cX8_near 40 = .ok (.iconst 0, 1) := by decide +kernel
theorem dX8_near_41 : decode cX8_near 41 = .ok (.istore_n 3, 1) := by decide +kernel
theorem dX8_near_42 : decode cX8_near 42 = .ok (.sipush 9999, 3) := by decide +kernel
theorem dX8_near_45 : decode cX8_near 45 = .ok (.istore 4, 2) := by decide +kernel
theorem dX8_near_47 : decode cX8_near 47 = .ok (.bipush (-4), 2) := by decide +kernel
theorem dX8_near_49 : decode cX8_near 49 = .ok (.istore 5, 2) := by decide +kernel
theorem dX8_near_51 : decode cX8_near 51 = .ok (.iconst 0, 1) := by decide +kernel
theorem dX8_near_52 : decode cX8_near 52 = .ok (.istore 6, 2) := by decide +kernel
theorem dX8_near_54 : decode cX8_near 54 = .ok (.iload 6, 2) := by decide +kernel
theorem dX8_near_56 : decode cX8_near 56 = .ok (.bipush 81, 2) := by decide +kernel
theorem dX8_near_58 : decode cX8_near 58 = .ok (.if_icmp .ge 72, 3) := by decide +kernel
theorem dX8_near_61 : decode cX8_near 61 = .ok (.aload_n 0, 1) := by decide +kernel
theorem dX8_near_62 : decode cX8_near 62 = .ok (.iload 6, 2) := by decide +kernel
theorem dX8_near_64 : decode cX8_near 64 = .ok (.invokevirtual 190, 3) := by decide +kernel
theorem dX8_near_67 : decode cX8_near 67 = .ok (.ifCond .eq 57, 3) := by decide +kernel
theorem dX8_near_70 : decode cX8_near 70 = .ok (.aload_n 0, 1) := by decide +kernel
theorem dX8_near_71 : decode cX8_near 71 = .ok (.iload 6, 2) := by decide +kernel
theorem dX8_near_73 : decode cX8_near 73 = .ok (.invokevirtual 242, 3) := by decide +kernel
theorem dX8_near_76 : decode cX8_near 76 = .ok (.istore 7, 2) := by decide +kernel
theorem dX8_near_78 : decode cX8_near 78 = .ok (.iload_n 3, 1) := by decide +kernel
theorem dX8_near_79 : decode cX8_near 79 = .ok (.iload 7, 2) := by decide +kernel
theorem dX8_near_81 : decode cX8_near 81 = .ok (.iload_n 1, 1) := by decide +kernel
theorem dX8_near_82 : decode cX8_near 82 = .ok (.if_icmp .gt 7, 3) := by decide +kernel
theorem dX8_near_85 : decode cX8_near 85 = .ok (.iconst 1, 1) := by decide +kernel
theorem dX8_near_86 : decode cX8_near 86 = .ok (.goto 4, 3) := by decide +kernel
theorem dX8_near_89 : decode cX8_near 89 = .ok (.iconst 0, 1) := by decide +kernel
theorem dX8_near_90 : decode cX8_near 90 = .ok (.iadd, 1) := by decide +kernel
theorem dX8_near_91 : decode cX8_near 91 = .ok (.istore_n 3, 1) := by decide +kernel
theorem dX8_near_92 : decode cX8_near 92 = .ok (.iload 7, 2) := by decide +kernel
theorem dX8_near_94 : decode cX8_near 94 = .ok (.iload 4, 2) := by decide +kernel
theorem dX8_near_96 : decode cX8_near 96 = .ok (.if_icmp .ge 8, 3) := by decide +kernel
theorem dX8_near_99 : decode cX8_near 99 = .ok (.iload 6, 2) := by decide +kernel
theorem dX8_near_101 : decode cX8_near 101 = .ok (.goto 5, 3) := by decide +kernel
theorem dX8_near_104 : decode cX8_near 104 = .ok (.iload 5, 2) := by decide +kernel
theorem dX8_near_106 : decode cX8_near 106 = .ok (.istore 5, 2) := by decide +kernel
theorem dX8_near_108 : decode cX8_near 108 = .ok (.iload 7, 2) := by decide +kernel
theorem dX8_near_110 : decode cX8_near 110 = .ok (.iload 4, 2) := by decide +kernel
theorem dX8_near_112 : decode cX8_near 112 = .ok (.if_icmp .ge 8, 3) := by decide +kernel
theorem dX8_near_115 : decode cX8_near 115 = .ok (.iload 7, 2) := by decide +kernel
theorem dX8_near_117 : decode cX8_near 117 = .ok (.goto 5, 3) := by decide +kernel
theorem dX8_near_120 : decode cX8_near 120 = .ok (.iload 4, 2) := by decide +kernel
theorem dX8_near_122 : decode cX8_near 122 = .ok (.istore 4, 2) := by decide +kernel
theorem dX8_near_124 : decode cX8_near 124 = .ok (.iinc 6 1, 3) := by decide +kernel
theorem dX8_near_127 : decode cX8_near 127 = .ok (.goto (-73), 3) := by decide +kernel
theorem dX8_near_130 : decode cX8_near 130 = .ok (.iload_n 2, 1) := by decide +kernel
theorem dX8_near_131 : decode cX8_near 131 = .ok (.ifCond .ne 7, 3) := by decide +kernel
theorem dX8_near_134 : decode cX8_near 134 = .ok (.iload_n 3, 1) := by decide +kernel
theorem dX8_near_135 : decode cX8_near 135 = .ok (.goto 15, 3) := by decide +kernel
theorem dX8_near_138 : decode cX8_near 138 = .ok (.iload_n 2, 1) := by decide +kernel
theorem dX8_near_139 : decode cX8_near 139 = .ok (.iconst 1, 1) := by decide +kernel
theorem dX8_near_140 : decode cX8_near 140 = .ok (.if_icmp .ne 8, 3) := by decide +kernel
theorem dX8_near_143 : decode cX8_near 143 = .ok (.iload 4, 2) := by decide +kernel
theorem dX8_near_145 : decode cX8_near 145 = .ok (.goto 5, 3) := by decide +kernel
theorem dX8_near_148 : decode cX8_near 148 = .ok (.iload 5, 2) := by decide +kernel
theorem dX8_near_150 : decode cX8_near 150 = .ok (.ireturn, 1) := by decide +kernel
theorem dX8_towerBy_0 : decode cX8_towerBy 0 = .ok (.iconst 0, 1) := by decide +kernel
theorem dX8_towerBy_1 : decode cX8_towerBy 1 = .ok (.istore 5, 2) := by decide +kernel
theorem dX8_towerBy_3 : decode cX8_towerBy 3 = .ok (.iload 5, 2) := by decide +kernel
theorem dX8_towerBy_5 : decode cX8_towerBy 5 = .ok (.aload_n 0, 1) := by decide +kernel
theorem dX8_towerBy_6 : decode cX8_towerBy 6 = .ok (.getfield 7, 3) := by decide +kernel
theorem dX8_towerBy_9 : decode cX8_towerBy 9 = .ok (.bipush 113, 2) := by decide +kernel
theorem dX8_towerBy_11 : decode cX8_towerBy 11 = .ok (.iaload, 1) := by decide +kernel
theorem dX8_towerBy_12 : decode cX8_towerBy 12 = .ok (.if_icmp .ge 62, 3) := by decide +kernel
theorem dX8_towerBy_15 : decode cX8_towerBy 15 = .ok (.aload_n 0, 1) := by decide +kernel
theorem dX8_towerBy_16 : decode cX8_towerBy 16 = .ok (.getfield 7, 3) := by decide +kernel
theorem dX8_towerBy_19 : decode cX8_towerBy 19 = .ok (.iconst 0, 1) := by decide +kernel
theorem dX8_towerBy_20 : decode cX8_towerBy 20 = .ok (.iload 5, 2) := by decide +kernel
theorem dX8_towerBy_22 : decode cX8_towerBy 22 = .ok (.iadd, 1) := by decide +kernel
theorem dX8_towerBy_23 : decode cX8_towerBy 23 = .ok (.iaload, 1) := by decide +kernel
theorem dX8_towerBy_24 : decode cX8_towerBy 24 = .ok (.istore 6, 2) := by decide +kernel
theorem dX8_towerBy_26 : decode cX8_towerBy 26 = .ok (.aload_n 0, 1) := by decide +kernel
theorem dX8_towerBy_27 : decode cX8_towerBy 27 = .ok (.iload 5, 2) := by decide +kernel
theorem dX8_towerBy_29 : decode cX8_towerBy 29 = .ok (.aload_n 0, 1) := by decide +kernel
theorem dX8_towerBy_30 : decode cX8_towerBy 30 = .ok (.getfield 19, 3) := by decide +kernel
theorem dX8_towerBy_33 : decode cX8_towerBy 33 = .ok (.iconst 2, 1) := by decide +kernel
theorem dX8_towerBy_34 : decode cX8_towerBy 34 = .ok (.iload_n 1, 1) := by decide +kernel
theorem dX8_towerBy_35 : decode cX8_towerBy 35 = .ok (.imul, 1) := by decide +kernel
theorem dX8_towerBy_36 : decode cX8_towerBy 36 = .ok (.iconst 1, 1) := by decide +kernel
theorem dX8_towerBy_37 : decode cX8_towerBy 37 = .ok (.iadd, 1) := by decide +kernel
theorem dX8_towerBy_38 : decode cX8_towerBy 38 = .ok (.iaload, 1) := by decide +kernel
theorem dX8_towerBy_39 : decode cX8_towerBy 39 = .ok (.invokevirtual 228, 3) := by decide +kernel
theorem dX8_towerBy_42 : decode cX8_towerBy 42 = .ok (.ifCond .eq 26, 3) := by decide +kernel
theorem dX8_towerBy_45 : decode cX8_towerBy 45 = .ok (.aload_n 0, 1) := by decide +kernel
theorem dX8_towerBy_46 : decode cX8_towerBy 46 = .ok (.iload 6, 2) := by decide +kernel
theorem dX8_towerBy_48 : decode cX8_towerBy 48 = .ok (.iload_n 3, 1) := by decide +kernel
theorem dX8_towerBy_49 : decode cX8_towerBy 49 = .ok (.invokevirtual 202, 3) := by decide +kernel
theorem dX8_towerBy_52 : decode cX8_towerBy 52 = .ok (.aload_n 0, 1) := by decide +kernel
theorem dX8_towerBy_53 : decode cX8_towerBy 53 = .ok (.iload 6, 2) := by decide +kernel
theorem dX8_towerBy_55 : decode cX8_towerBy 55 = .ok (.iload_n 2, 1) := by decide +kernel
theorem dX8_towerBy_56 : decode cX8_towerBy 56 = .ok (.invokevirtual 202, 3) := by decide +kernel
theorem dX8_towerBy_59 : decode cX8_towerBy 59 = .ok (.isub, 1) := by decide +kernel
theorem dX8_towerBy_60 : decode cX8_towerBy 60 = .ok (.iload 4, 2) := by decide +kernel
theorem dX8_towerBy_62 : decode cX8_towerBy 62 = .ok (.if_icmp .ne 6, 3) := by decide +kernel
theorem dX8_towerBy_65 : decode cX8_towerBy 65 = .ok (.iload 5, 2) := by decide +kernel
theorem dX8_towerBy_67 : decode cX8_towerBy 67 = .ok (.ireturn, 1) := by decide +kernel
theorem dX8_towerBy_68 : decode cX8_towerBy 68 = .ok (.iinc 5 1, 3) := by decide +kernel
theorem dX8_towerBy_71 : decode cX8_towerBy 71 = .ok (.goto (-68), 3) := by decide +kernel
theorem dX8_towerBy_74 : decode cX8_towerBy 74 = .ok (.bipush (-4), 2) := by decide +kernel
theorem dX8_towerBy_76 : decode cX8_towerBy 76 = .ok (.ireturn, 1) := by decide +kernel
theorem dX8_canLag_0 : decode cX8_canLag 0 = .ok (.iconst 1, 1) := by decide +kernel
theorem dX8_canLag_1 : decode cX8_canLag 1 = .ok (.istore 4, 2) := by decide +kernel
theorem dX8_canLag_3 : decode cX8_canLag 3 = .ok (.iconst 0, 1) := by decide +kernel
theorem dX8_canLag_4 : decode cX8_canLag 4 = .ok (.istore 5, 2) := by decide +kernel
theorem dX8_canLag_6 : decode cX8_canLag 6 = .ok (.iload 5, 2) := by decide +kernel
theorem dX8_canLag_8 : decode cX8_canLag 8 = .ok (.aload_n 0, 1) := by decide +kernel
theorem dX8_canLag_9 : decode cX8_canLag 9 = .ok (.getfield 156, 3) := by decide +kernel
theorem dX8_canLag_12 : decode cX8_canLag 12 = .ok (.if_icmp .ge 49, 3) := by decide +kernel
theorem dX8_canLag_15 : decode cX8_canLag 15 = .ok (.iload 4, 2) := by decide +kernel
theorem dX8_canLag_17 : decode cX8_canLag 17 = .ok (.ifCond .eq 44, 3) := by decide +kernel
theorem dX8_canLag_20 : decode cX8_canLag 20 = .ok (.aload_n 0, 1) := by decide +kernel
theorem dX8_canLag_21 : decode cX8_canLag 21 = .ok (.getfield 43, 3) := by decide +kernel
theorem dX8_canLag_24 : decode cX8_canLag 24 = .ok (.iload 5, 2) := by decide +kernel
theorem dX8_canLag_26 : decode cX8_canLag 26 = .ok (.aload_n 0, 1) := by decide +kernel
theorem dX8_canLag_27 : decode cX8_canLag 27 = .ok (.iload 5, 2) := by decide +kernel
theorem dX8_canLag_29 : decode cX8_canLag 29 = .ok (.iload_n 1, 1) := by decide +kernel
theorem dX8_canLag_30 : decode cX8_canLag 30 = .ok (.iload_n 2, 1) := by decide +kernel
theorem dX8_canLag_31 : decode cX8_canLag 31 = .ok (.iload_n 3, 1) := by decide +kernel
theorem dX8_canLag_32 : decode cX8_canLag 32 = .ok (.invokevirtual 247, 3) := by decide +kernel
theorem dX8_canLag_35 : decode cX8_canLag 35 = .ok (.iastore, 1) := by decide +kernel
theorem dX8_canLag_36 : decode cX8_canLag 36 = .ok (.aload_n 0, 1) := by decide +kernel
theorem dX8_canLag_37 : decode cX8_canLag 37 = .ok (.getfield 43, 3) := by decide +kernel
theorem dX8_canLag_40 : decode cX8_canLag 40 = .ok (.iload 5, 2) := by decide +kernel
theorem dX8_canLag_42 : decode cX8_canLag 42 = .ok (.iaload, 1) := by decide +kernel
theorem dX8_canLag_43 : decode cX8_canLag 43 = .ok (.bipush (-4), 2) := by decide +kernel
theorem dX8_canLag_45 : decode cX8_canLag 45 = .ok (.if_icmp .eq 7, 3) := by decide +kernel
theorem dX8_canLag_48 : decode cX8_canLag 48 = .ok (.iconst 1, 1) := by decide +kernel
theorem dX8_canLag_49 : decode cX8_canLag 49 = .ok (.goto 4, 3) := by decide +kernel
theorem dX8_canLag_52 : decode cX8_canLag 52 = .ok (.iconst 0, 1) := by decide +kernel
theorem dX8_canLag_53 : decode cX8_canLag 53 = .ok (.istore 4, 2) := by decide +kernel
theorem dX8_canLag_55 : decode cX8_canLag 55 = .ok (.iinc 5 1, 3) := by decide +kernel
theorem dX8_canLag_58 : decode cX8_canLag 58 = .ok (.goto (-52), 3) := by decide +kernel
theorem dX8_canLag_61 : decode cX8_canLag 61 = .ok (.iload 4, 2) := by decide +kernel
theorem dX8_canLag_63 : decode cX8_canLag 63 = .ok (.ireturn, 1) := by decide +kernel
theorem dX8_twice_0 : decode cX8_twice 0 = .ok (.aload_n 0, 1) := by decide +kernel
theorem dX8_twice_1 : decode cX8_twice 1 = .ok (.iload_n 1, 1) := by decide +kernel
theorem dX8_twice_2 : decode cX8_twice 2 = .ok (.invokevirtual 190, 3) := by decide +kernel
theorem dX8_twice_5 : decode cX8_twice 5 = .ok (.ifCond .eq 42, 3) := by decide +kernel
theorem dX8_twice_8 : decode cX8_twice 8 = .ok (.aload_n 0, 1) := by decide +kernel
theorem dX8_twice_9 : decode cX8_twice 9 = .ok (.iload_n 2, 1) := by decide +kernel
theorem dX8_twice_10 : decode cX8_twice 10 = .ok (.invokevirtual 190, 3) := by decide +kernel
theorem dX8_twice_13 : decode cX8_twice 13 = .ok (.ifCond .eq 34, 3) := by decide +kernel
theorem dX8_twice_16 : decode cX8_twice 16 = .ok (.iload_n 3, 1) := by decide +kernel
theorem dX8_twice_17 : decode cX8_twice 17 = .ok (.i2l, 1) := by decide +kernel
theorem dX8_twice_18 : decode cX8_twice 18 = .ok (.lconst 0, 1) := by decide +kernel
theorem dX8_twice_19 : decode cX8_twice 19 = .ok (.ldc2_w 177, 3) := by decide +kernel
theorem dX8_twice_22 : decode cX8_twice 22 = .ok (.invokestatic 79, 3) := by decide +kernel
theorem dX8_twice_25 : decode cX8_twice 25 = .ok (.ifCond .ne 24, 3) := by decide +kernel
theorem dX8_twice_28 : decode cX8_twice 28 = .ok (.iload_n 3, 1) := by decide +kernel
theorem dX8_twice_29 : decode cX8_twice 29 = .ok (.i2l, 1) := by decide +kernel
theorem dX8_twice_30 : decode cX8_twice 30 = .ok (.ldc2_w 251, 3) := by decide +kernel
theorem dX8_twice_33 : decode cX8_twice 33 = .ok (.bipush 9, 2) := by decide +kernel
theorem dX8_twice_35 : decode cX8_twice 35 = .ok (.aload_n 0, 1) := by decide +kernel
theorem dX8_twice_36 : decode cX8_twice 36 = .ok (.getfield 156, 3) := by decide +kernel
theorem dX8_twice_39 : decode cX8_twice 39 = .ok (.iadd, 1) := by decide +kernel
theorem dX8_twice_40 : decode cX8_twice 40 = .ok (.i2l, 1) := by decide +kernel
theorem dX8_twice_41 : decode cX8_twice 41 = .ok (.invokestatic 79, 3) := by decide +kernel
theorem dX8_twice_44 : decode cX8_twice 44 = .ok (.ifCond .ne 5, 3) := by decide +kernel
theorem dX8_twice_47 : decode cX8_twice 47 = .ok (.iconst (-1), 1) := by decide +kernel
theorem dX8_twice_48 : decode cX8_twice 48 = .ok (.ireturn, 1) := by decide +kernel
theorem dX8_twice_49 : decode cX8_twice 49 = .ok (.aload_n 0, 1) := by decide +kernel
theorem dX8_twice_50 : decode cX8_twice 50 = .ok (.getfield 156, 3) := by decide +kernel
theorem dX8_twice_53 : decode cX8_twice 53 = .ok (.ifCond .ne 6, 3) := by decide +kernel
theorem dX8_twice_56 : decode cX8_twice 56 = .ok (.bipush (-2), 2) := by decide +kernel
theorem dX8_twice_58 : decode cX8_twice 58 = .ok (.ireturn, 1) := by decide +kernel
theorem dX8_twice_59 : decode cX8_twice 59 = .ok (.iconst 0, 1) := by decide +kernel
theorem dX8_twice_60 : decode cX8_twice 60 = .ok (.istore 4, 2) := by decide +kernel
theorem dX8_twice_62 : decode cX8_twice 62 = .ok (.iconst 0, 1) := by decide +kernel
theorem dX8_twice_63 : decode cX8_twice 63 = .ok (.istore 5, 2) := by decide +kernel
theorem dX8_twice_65 : decode cX8_twice 65 = .ok (.iconst 0, 1) := by decide +kernel
theorem dX8_twice_66 : decode cX8_twice 66 = .ok (.istore 6, 2) := by decide +kernel
theorem dX8_twice_68 : decode cX8_twice 68 = .ok (.sipush (-200), 3) := by decide +kernel
theorem dX8_twice_71 : decode cX8_twice 71 = .ok (.istore 7, 2) := by decide +kernel
theorem dX8_twice_73 : decode cX8_twice 73 = .ok (.iload 7, 2) := by decide +kernel
theorem dX8_twice_75 : decode cX8_twice 75 = .ok (.sipush 200, 3) := by decide +kernel
theorem dX8_twice_78 : decode cX8_twice 78 = .ok (.if_icmp .gt 41, 3) := by decide +kernel
theorem dX8_twice_81 : decode cX8_twice 81 = .ok (.aload_n 0, 1) := by decide +kernel
theorem dX8_twice_82 : decode cX8_twice 82 = .ok (.iload_n 1, 1) := by decide +kernel
theorem dX8_twice_83 : decode cX8_twice 83 = .ok (.iload_n 2, 1) := by decide +kernel
theorem dX8_twice_84 : decode cX8_twice 84 = .ok (.iload 7, 2) := by decide +kernel
theorem dX8_twice_86 : decode cX8_twice 86 = .ok (.invokevirtual 253, 3) := by decide +kernel
theorem dX8_twice_89 : decode cX8_twice 89 = .ok (.ifCond .eq 24, 3) := by decide +kernel
theorem dX8_twice_92 : decode cX8_twice 92 = .ok (.iload 4, 2) := by decide +kernel
theorem dX8_twice_94 : decode cX8_twice 94 = .ok (.ifCond .ne 8, 3) := by decide +kernel
theorem dX8_twice_97 : decode cX8_twice 97 = .ok (.iload 7, 2) := by decide +kernel
theorem dX8_twice_99 : decode cX8_twice 99 = .ok (.goto 5, 3) := by decide +kernel
theorem dX8_twice_102 : decode cX8_twice 102 = .ok (.iload 5, 2) := by decide +kernel
theorem dX8_twice_104 : decode cX8_twice 104 = .ok (.istore 5, 2) := by decide +kernel
theorem dX8_twice_106 : decode cX8_twice 106 = .ok (.iload 7, 2) := by decide +kernel
theorem dX8_twice_108 : decode cX8_twice 108 = .ok (.istore 6, 2) := by decide +kernel
theorem dX8_twice_110 : decode cX8_twice 110 = .ok (.iinc 4 1, 3) := by decide +kernel
theorem dX8_twice_113 : decode cX8_twice 113 = .ok (.iinc 7 1, 3) := by decide +kernel
theorem dX8_twice_116 : decode cX8_twice 116 = .ok (.goto (-43), 3) := by decide +kernel
theorem dX8_twice_119 : decode cX8_twice 119 = .ok (.iload 4, 2) := by decide +kernel
theorem dX8_twice_121 : decode cX8_twice 121 = .ok (.ifCond .eq 7, 3) := by decide +kernel
theorem dX8_twice_124 : decode cX8_twice 124 = .ok (.iload_n 3, 1) := by decide +kernel
theorem dX8_twice_125 : decode cX8_twice 125 = .ok (.ifCond .ne 15, 3) := by decide +kernel
theorem dX8_twice_128 : decode cX8_twice 128 = .ok (.iload_n 3, 1) := by decide +kernel
theorem dX8_twice_129 : decode cX8_twice 129 = .ok (.ifCond .ne 8, 3) := by decide +kernel
theorem dX8_twice_132 : decode cX8_twice 132 = .ok (.iload 4, 2) := by decide +kernel
theorem dX8_twice_134 : decode cX8_twice 134 = .ok (.goto 5, 3) := by decide +kernel
theorem dX8_twice_137 : decode cX8_twice 137 = .ok (.bipush (-4), 2) := by decide +kernel
theorem dX8_twice_139 : decode cX8_twice 139 = .ok (.ireturn, 1) := by decide +kernel
theorem dX8_twice_140 : decode cX8_twice 140 = .ok (.iload_n 3, 1) := by decide +kernel
theorem dX8_twice_141 : decode cX8_twice 141 = .ok (.iconst 1, 1) := by decide +kernel
theorem dX8_twice_142 : decode cX8_twice 142 = .ok (.if_icmp .ne 12, 3) := by decide +kernel
theorem dX8_twice_145 : decode cX8_twice 145 = .ok (.sipush 1000, 3) := by decide +kernel
theorem dX8_twice_148 : decode cX8_twice 148 = .ok (.iload 5, 2) := by decide +kernel
theorem dX8_twice_150 : decode cX8_twice 150 = .ok (.iadd, 1) := by decide +kernel
theorem dX8_twice_151 : decode cX8_twice 151 = .ok (.goto 29, 3) := by decide +kernel
theorem dX8_twice_154 : decode cX8_twice 154 = .ok (.iload_n 3, 1) := by decide +kernel
theorem dX8_twice_155 : decode cX8_twice 155 = .ok (.iconst 2, 1) := by decide +kernel
theorem dX8_twice_156 : decode cX8_twice 156 = .ok (.if_icmp .ne 12, 3) := by decide +kernel
theorem dX8_twice_159 : decode cX8_twice 159 = .ok (.sipush 1000, 3) := by decide +kernel
theorem dX8_twice_162 : decode cX8_twice 162 = .ok (.iload 6, 2) := by decide +kernel
theorem dX8_twice_164 : decode cX8_twice 164 = .ok (.iadd, 1) := by decide +kernel
theorem dX8_twice_165 : decode cX8_twice 165 = .ok (.goto 15, 3) := by decide +kernel
theorem dX8_twice_168 : decode cX8_twice 168 = .ok (.aload_n 0, 1) := by decide +kernel
theorem dX8_twice_169 : decode cX8_twice 169 = .ok (.iload_n 3, 1) := by decide +kernel
theorem dX8_twice_170 : decode cX8_twice 170 = .ok (.bipush 10, 2) := by decide +kernel
theorem dX8_twice_172 : decode cX8_twice 172 = .ok (.isub, 1) := by decide +kernel
theorem dX8_twice_173 : decode cX8_twice 173 = .ok (.iload_n 1, 1) := by decide +kernel
theorem dX8_twice_174 : decode cX8_twice 174 = .ok (.iload_n 2, 1) := by decide +kernel
theorem dX8_twice_175 : decode cX8_twice 175 = .ok (.iload 5, 2) := by decide +kernel
theorem dX8_twice_177 : decode cX8_twice 177 = .ok (.invokevirtual 247, 3) := by decide +kernel
theorem dX8_twice_180 : decode cX8_twice 180 = .ok (.ireturn, 1) := by decide +kernel
theorem dX8_both_0 : decode cX8_both 0 = .ok (.aload_n 0, 1) := by decide +kernel
theorem dX8_both_1 : decode cX8_both 1 = .ok (.iload_n 1, 1) := by decide +kernel
theorem dX8_both_2 : decode cX8_both 2 = .ok (.invokevirtual 190, 3) := by decide +kernel
theorem dX8_both_5 : decode cX8_both 5 = .ok (.ifCond .eq 25, 3) := by decide +kernel
theorem dX8_both_8 : decode cX8_both 8 = .ok (.aload_n 0, 1) := by decide +kernel
theorem dX8_both_9 : decode cX8_both 9 = .ok (.iload_n 2, 1) := by decide +kernel
theorem dX8_both_10 : decode cX8_both 10 = .ok (.invokevirtual 190, 3) := by decide +kernel
theorem dX8_both_13 : decode cX8_both 13 = .ok (.ifCond .eq 17, 3) := by decide +kernel
theorem dX8_both_16 : decode cX8_both 16 = .ok (.iload_n 3, 1) := by decide +kernel
theorem dX8_both_17 : decode cX8_both 17 = .ok (.i2l, 1) := by decide +kernel
theorem dX8_both_18 : decode cX8_both 18 = .ok (.ldc2_w 257, 3) := by decide +kernel
theorem dX8_both_21 : decode cX8_both 21 = .ok (.ldc2_w 245, 3) := by decide +kernel
theorem dX8_both_24 : decode cX8_both 24 = .ok (.invokestatic 79, 3) := by decide +kernel
theorem dX8_both_27 : decode cX8_both 27 = .ok (.ifCond .ne 5, 3) := by decide +kernel
theorem dX8_both_30 : decode cX8_both 30 = .ok (.iconst (-1), 1) := by decide +kernel
theorem dX8_both_31 : decode cX8_both 31 = .ok (.ireturn, 1) := by decide +kernel
theorem dX8_both_32 : decode cX8_both 32 = .ok (.aload_n 0, 1) := by decide +kernel
theorem dX8_both_33 : decode cX8_both 33 = .ok (.getfield 156, 3) := by decide +kernel
theorem dX8_both_36 : decode cX8_both 36 = .ok (.ifCond .ne 6, 3) := by decide +kernel
theorem dX8_both_39 : decode cX8_both 39 = .ok (.bipush (-2), 2) := by decide +kernel
theorem dX8_both_41 : decode cX8_both 41 = .ok (.ireturn, 1) := by decide +kernel
theorem dX8_both_42 : decode cX8_both 42 = .ok (.aload_n 0, 1) := by decide +kernel
theorem dX8_both_43 : decode cX8_both 43 = .ok (.iload_n 1, 1) := by decide +kernel
theorem dX8_both_44 : decode cX8_both 44 = .ok (.iload_n 2, 1) := by decide +kernel
theorem dX8_both_45 : decode cX8_both 45 = .ok (.iload_n 3, 1) := by decide +kernel
theorem dX8_both_46 : decode cX8_both 46 = .ok (.invokevirtual 253, 3) := by decide +kernel
theorem dX8_both_49 : decode cX8_both 49 = .ok (.ifCond .eq 11, 3) := by decide +kernel
theorem dX8_both_52 : decode cX8_both 52 = .ok (.aload_n 0, 1) := by decide +kernel
theorem dX8_both_53 : decode cX8_both 53 = .ok (.iload_n 1, 1) := by decide +kernel
theorem dX8_both_54 : decode cX8_both 54 = .ok (.invokevirtual 232, 3) := by decide +kernel
theorem dX8_both_57 : decode cX8_both 57 = .ok (.goto 5, 3) := by decide +kernel
theorem dX8_both_60 : decode cX8_both 60 = .ok (.bipush (-4), 2) := by decide +kernel
theorem dX8_both_62 : decode cX8_both 62 = .ok (.ireturn, 1) := by decide +kernel
theorem dX8_bitsOf_0 : decode cX8_bitsOf 0 = .ok (.iconst 0, 1) := by decide +kernel
theorem dX8_bitsOf_1 : decode cX8_bitsOf 1 = .ok (.istore_n 1, 1) := by decide +kernel
theorem dX8_bitsOf_2 : decode cX8_bitsOf 2 = .ok (.iconst 0, 1) := by decide +kernel
theorem dX8_bitsOf_3 : decode cX8_bitsOf 3 = .ok (.istore_n 2, 1) := by decide +kernel
theorem dX8_bitsOf_4 : decode cX8_bitsOf 4 = .ok (.iload_n 2, 1) := by decide +kernel
theorem dX8_bitsOf_5 : decode cX8_bitsOf 5 = .ok (.bipush 8, 2) := by decide +kernel
theorem dX8_bitsOf_7 : decode cX8_bitsOf 7 = .ok (.if_icmp .ge 17, 3) := by decide +kernel
theorem dX8_bitsOf_10 : decode cX8_bitsOf 10 = .ok (.iload_n 1, 1) := by decide +kernel
theorem dX8_bitsOf_11 : decode cX8_bitsOf 11 = .ok (.iload_n 0, 1) := by decide +kernel
theorem dX8_bitsOf_12 : decode cX8_bitsOf 12 = .ok (.iload_n 2, 1) := by decide +kernel
theorem dX8_bitsOf_13 : decode cX8_bitsOf 13 = .ok (.ishr, 1) := by decide +kernel
theorem dX8_bitsOf_14 : decode cX8_bitsOf 14 = .ok (.iconst 1, 1) := by decide +kernel
theorem dX8_bitsOf_15 : decode cX8_bitsOf 15 = .ok (.iand, 1) := by decide +kernel
theorem dX8_bitsOf_16 : decode cX8_bitsOf 16 = .ok (.iadd, 1) := by decide +kernel
theorem dX8_bitsOf_17 : decode cX8_bitsOf 17 = .ok (.istore_n 1, 1) := by decide +kernel
theorem dX8_bitsOf_18 : decode cX8_bitsOf 18 = .ok (.iinc 2 1, 3) := by decide +kernel
theorem dX8_bitsOf_21 : decode cX8_bitsOf 21 = .ok (.goto (-17), 3) := by decide +kernel
theorem dX8_bitsOf_24 : decode cX8_bitsOf 24 = .ok (.iload_n 1, 1) := by decide +kernel
theorem dX8_bitsOf_25 : decode cX8_bitsOf 25 = .ok (.ireturn, 1) := by decide +kernel
theorem dX8_wanted_0 : decode cX8_wanted 0 = .ok (.iconst 0, 1) := by decide +kernel
theorem dX8_wanted_1 : decode cX8_wanted 1 = .ok (.istore_n 1, 1) := by decide +kernel
theorem dX8_wanted_2 : decode cX8_wanted 2 = .ok (.iconst 0, 1) := by decide +kernel
theorem dX8_wanted_3 : decode cX8_wanted 3 = .ok (.istore_n 2, 1) := by decide +kernel
theorem dX8_wanted_4 : decode cX8_wanted 4 = .ok (.iload_n 2, 1) := by decide +kernel
theorem dX8_wanted_5 : decode cX8_wanted 5 = .ok (.aload_n 0, 1) := by decide +kernel
theorem dX8_wanted_6 : decode cX8_wanted 6 = .ok (.getfield 156, 3) := by decide +kernel
theorem dX8_wanted_9 : decode cX8_wanted 9 = .ok (.if_icmp .ge 24, 3) := by decide +kernel
theorem dX8_wanted_12 : decode cX8_wanted 12 = .ok (.iload_n 1, 1) := by decide +kernel
theorem dX8_wanted_13 : decode cX8_wanted 13 = .ok (.iconst 1, 1) := by decide +kernel
theorem dX8_wanted_14 : decode cX8_wanted 14 = .ok (.aload_n 0, 1) := by decide +kernel
theorem dX8_wanted_15 : decode cX8_wanted 15 = .ok (.getfield 19, 3) := by decide +kernel
theorem dX8_wanted_18 : decode cX8_wanted 18 = .ok (.iconst 2, 1) := by decide +kernel
theorem dX8_wanted_19 : decode cX8_wanted 19 = .ok (.iload_n 2, 1) := by decide +kernel
theorem dX8_wanted_20 : decode cX8_wanted 20 = .ok (.imul, 1) := by decide +kernel
theorem dX8_wanted_21 : decode cX8_wanted 21 = .ok (.iconst 1, 1) := by decide +kernel
theorem dX8_wanted_22 : decode cX8_wanted 22 = .ok (.iadd, 1) := by decide +kernel
theorem dX8_wanted_23 : decode cX8_wanted 23 = .ok (.iaload, 1) := by decide +kernel
theorem dX8_wanted_24 : decode cX8_wanted 24 = .ok (.ishl, 1) := by decide +kernel
theorem dX8_wanted_25 : decode cX8_wanted 25 = .ok (.ior, 1) := by decide +kernel
theorem dX8_wanted_26 : decode cX8_wanted 26 = .ok (.istore_n 1, 1) := by decide +kernel
theorem dX8_wanted_27 : decode cX8_wanted 27 = .ok (.iinc 2 1, 3) := by decide +kernel
theorem dX8_wanted_30 : decode cX8_wanted 30 = .ok (.goto (-26), 3) := by decide +kernel
theorem dX8_wanted_33 : decode cX8_wanted 33 = .ok (.iload_n 1, 1) := by decide +kernel
theorem dX8_wanted_34 : decode cX8_wanted 34 = .ok (.ireturn, 1) := by decide +kernel
theorem dX8_lack_0 : decode cX8_lack 0 = .ok (.aload_n 0, 1) := by decide +kernel
theorem dX8_lack_1 : decode cX8_lack 1 = .ok (.invokevirtual 259, 3) := by decide +kernel
theorem dX8_lack_4 : decode cX8_lack 4 = .ok (.istore_n 2, 1) := by decide +kernel
theorem dX8_lack_5 : decode cX8_lack 5 = .ok (.iconst 0, 1) := by decide +kernel
theorem dX8_lack_6 : decode cX8_lack 6 = .ok (.istore_n 3, 1) := by decide +kernel
theorem dX8_lack_7 : decode cX8_lack 7 = .ok (.iload_n 3, 1) := by decide +kernel
theorem dX8_lack_8 : decode cX8_lack 8 = .ok (.aload_n 0, 1) := by decide +kernel
theorem dX8_lack_9 : decode cX8_lack 9 = .ok (.getfield 7, 3) := by decide +kernel
theorem dX8_lack_12 : decode cX8_lack 12 = .ok (.bipush 113, 2) := by decide +kernel
theorem dX8_lack_14 : decode cX8_lack 14 = .ok (.iaload, 1) := by decide +kernel
theorem dX8_lack_15 : decode cX8_lack 15 = .ok (.if_icmp .ge 36, 3) := by decide +kernel
theorem dX8_lack_18 : decode cX8_lack 18 = .ok (.iload_n 2, 1) := by decide +kernel
theorem dX8_lack_19 : decode cX8_lack 19 = .ok (.iload_n 1, 1) := by decide +kernel
theorem dX8_lack_20 : decode cX8_lack 20 = .ok (.iload_n 3, 1) := by decide +kernel
theorem dX8_lack_21 : decode cX8_lack 21 = .ok (.ishr, 1) := by decide +kernel
theorem dX8_lack_22 : decode cX8_lack 22 = .ok (.iconst 1, 1) := by decide +kernel
theorem dX8_lack_23 : decode cX8_lack 23 = .ok (.iand, 1) := by decide +kernel
theorem dX8_lack_24 : decode cX8_lack 24 = .ok (.iconst 1, 1) := by decide +kernel
theorem dX8_lack_25 : decode cX8_lack 25 = .ok (.if_icmp .ne 17, 3) := by decide +kernel
theorem dX8_lack_28 : decode cX8_lack 28 = .ok (.aload_n 0, 1) := by decide +kernel
theorem dX8_lack_29 : decode cX8_lack 29 = .ok (.getfield 7, 3) := by decide +kernel
theorem dX8_lack_32 : decode cX8_lack 32 = .ok (.bipush 6, 2) := by decide +kernel
theorem dX8_lack_34 : decode cX8_lack 34 = .ok (.iload_n 3, 1) := by decide +kernel
theorem dX8_lack_35 : decode cX8_lack 35 = .ok (.iadd, 1) := by decide +kernel
theorem dX8_lack_36 : decode cX8_lack 36 = .ok (.iaload, 1) := by decide +kernel
theorem dX8_lack_37 : decode cX8_lack 37 = .ok (.iconst (-1), 1) := by decide +kernel
theorem dX8_lack_38 : decode cX8_lack 38 = .ok (.ixor, 1) := by decide +kernel
theorem dX8_lack_39 : decode cX8_lack 39 = .ok (.goto 4, 3) := by decide +kernel
theorem dX8_lack_42 : decode cX8_lack 42 = .ok (.iconst (-1), 1) := by decide +kernel
theorem dX8_lack_43 : decode cX8_lack 43 = .ok (.iand, 1) := by decide +kernel
theorem dX8_lack_44 : decode cX8_lack 44 = .ok (.istore_n 2, 1) := by decide +kernel
theorem dX8_lack_45 : decode cX8_lack 45 = .ok (.iinc 3 1, 3) := by decide +kernel
theorem dX8_lack_48 : decode cX8_lack 48 = .ok (.goto (-41), 3) := by decide +kernel
theorem dX8_lack_51 : decode cX8_lack 51 = .ok (.iload_n 2, 1) := by decide +kernel
theorem dX8_lack_52 : decode cX8_lack 52 = .ok (.invokestatic 262, 3) := by decide +kernel
theorem dX8_lack_55 : decode cX8_lack 55 = .ok (.ireturn, 1) := by decide +kernel
theorem dX8_fewest_0 : decode cX8_fewest 0 = .ok (.aload_n 0, 1) := by decide +kernel
theorem dX8_fewest_1 : decode cX8_fewest 1 = .ok (.invokevirtual 168, 3) := by decide +kernel
theorem dX8_fewest_4 : decode cX8_fewest 4 = .ok (.iload_n 1, 1) := by decide +kernel
theorem dX8_fewest_5 : decode cX8_fewest 5 = .ok (.i2l, 1) := by decide +kernel
theorem dX8_fewest_6 : decode cX8_fewest 6 = .ok (.lconst 0, 1) := by decide +kernel
theorem dX8_fewest_7 : decode cX8_fewest 7 = .ok (.lconst 1, 1) := by decide +kernel
theorem dX8_fewest_8 : decode cX8_fewest 8 = .ok (.invokestatic 79, 3) := by decide +kernel
theorem dX8_fewest_11 : decode cX8_fewest 11 = .ok (.ifCond .ne 5, 3) := by decide +kernel
theorem dX8_fewest_14 : decode cX8_fewest 14 = .ok (.iconst (-1), 1) := by decide +kernel
theorem dX8_fewest_15 : decode cX8_fewest 15 = .ok (.ireturn, 1) := by decide +kernel
theorem dX8_fewest_16 : decode cX8_fewest 16 = .ok (.bipush (-4), 2) := by decide +kernel
theorem dX8_fewest_18 : decode cX8_fewest 18 = .ok (.istore_n 2, 1) := by decide +kernel
theorem dX8_fewest_19 : decode cX8_fewest 19 = .ok (.iconst 0, 1) := by decide +kernel
theorem dX8_fewest_20 : decode cX8_fewest 20 = .ok (.istore_n 3, 1) := by decide +kernel
theorem dX8_fewest_21 : decode cX8_fewest 21 = .ok (.iload_n 3, 1) := by decide +kernel
theorem dX8_fewest_22 : decode cX8_fewest 22 = .ok (.iconst 1, 1) := by decide +kernel
theorem dX8_fewest_23 : decode cX8_fewest 23 = .ok (.aload_n 0, 1) := by decide +kernel
theorem dX8_fewest_24 : decode cX8_fewest 24 = .ok (.getfield 7, 3) := by decide +kernel
theorem dX8_fewest_27 : decode cX8_fewest 27 = .ok (.bipush 113, 2) := by decide +kernel
theorem dX8_fewest_29 : decode cX8_fewest 29 = .ok (.iaload, 1) := by decide +kernel
theorem dX8_fewest_30 : decode cX8_fewest 30 = .ok (.ishl, 1) := by decide +kernel
theorem dX8_fewest_31 : decode cX8_fewest 31 = .ok (.if_icmp .ge 40, 3) := by decide +kernel
theorem dX8_fewest_34 : decode cX8_fewest 34 = .ok (.aload_n 0, 1) := by decide +kernel
theorem dX8_fewest_35 : decode cX8_fewest 35 = .ok (.iload_n 3, 1) := by decide +kernel
theorem dX8_fewest_36 : decode cX8_fewest 36 = .ok (.invokevirtual 265, 3) := by decide +kernel
theorem dX8_fewest_39 : decode cX8_fewest 39 = .ok (.ifCond .ne 24, 3) := by decide +kernel
theorem dX8_fewest_42 : decode cX8_fewest 42 = .ok (.iload_n 2, 1) := by decide +kernel
theorem dX8_fewest_43 : decode cX8_fewest 43 = .ok (.bipush (-4), 2) := by decide +kernel
theorem dX8_fewest_45 : decode cX8_fewest 45 = .ok (.if_icmp .eq 14, 3) := by decide +kernel
theorem dX8_fewest_48 : decode cX8_fewest 48 = .ok (.iload_n 3, 1) := by decide +kernel
theorem dX8_fewest_49 : decode cX8_fewest 49 = .ok (.invokestatic 262, 3) := by decide +kernel
theorem dX8_fewest_52 : decode cX8_fewest 52 = .ok (.iload_n 2, 1) := by decide +kernel
theorem dX8_fewest_53 : decode cX8_fewest 53 = .ok (.invokestatic 262, 3) := by decide +kernel
theorem dX8_fewest_56 : decode cX8_fewest 56 = .ok (.if_icmp .ge 7, 3) := by decide +kernel
theorem dX8_fewest_59 : decode cX8_fewest 59 = .ok (.iload_n 3, 1) := by decide +kernel
theorem dX8_fewest_60 : decode cX8_fewest 60 = .ok (.goto 4, 3) := by decide +kernel
theorem dX8_fewest_63 : decode cX8_fewest 63 = .ok (.iload_n 2, 1) := by decide +kernel
theorem dX8_fewest_64 : decode cX8_fewest 64 = .ok (.istore_n 2, 1) := by decide +kernel
theorem dX8_fewest_65 : decode cX8_fewest 65 = .ok (.iinc 3 1, 3) := by decide +kernel
theorem dX8_fewest_68 : decode cX8_fewest 68 = .ok (.goto (-47), 3) := by decide +kernel
theorem dX8_fewest_71 : decode cX8_fewest 71 = .ok (.iload_n 2, 1) := by decide +kernel
theorem dX8_fewest_72 : decode cX8_fewest 72 = .ok (.bipush (-4), 2) := by decide +kernel
theorem dX8_fewest_74 : decode cX8_fewest 74 = .ok (.if_icmp .eq 8, 3) := by decide +kernel
theorem dX8_fewest_77 : decode cX8_fewest 77 = .ok (.iload_n 1, 1) := by decide +kernel
theorem dX8_fewest_78 : decode cX8_fewest 78 = .ok (.iconst 1, 1) := by decide +kernel
theorem dX8_fewest_79 : decode cX8_fewest 79 = .ok (.if_icmp .ne 7, 3) := by decide +kernel
theorem dX8_fewest_82 : decode cX8_fewest 82 = .ok (.iload_n 2, 1) := by decide +kernel
theorem dX8_fewest_83 : decode cX8_fewest 83 = .ok (.goto 7, 3) := by decide +kernel
theorem dX8_fewest_86 : decode cX8_fewest 86 = .ok (.iload_n 2, 1) := by decide +kernel
theorem dX8_fewest_87 : decode cX8_fewest 87 = .ok (.invokestatic 262, 3) := by decide +kernel
theorem dX8_fewest_90 : decode cX8_fewest 90 = .ok (.ireturn, 1) := by decide +kernel
theorem dX8_pipes_0 : decode cX8_pipes 0 = .ok (.aload_n 0, 1) := by decide +kernel
theorem dX8_pipes_1 : decode cX8_pipes 1 = .ok (.invokevirtual 168, 3) := by decide +kernel
theorem dX8_pipes_4 : decode cX8_pipes 4 = .ok (.iload_n 1, 1) := by decide +kernel
theorem dX8_pipes_5 : decode cX8_pipes 5 = .ok (.i2l, 1) := by decide +kernel
theorem dX8_pipes_6 : decode cX8_pipes 6 = .ok (.lconst 0, 1) := by decide +kernel
theorem dX8_pipes_7 : decode cX8_pipes 7 = .ok (.ldc2_w 171, 3) := by decide +kernel
theorem dX8_pipes_10 : decode cX8_pipes 10 = .ok (.invokestatic 79, 3) := by decide +kernel
theorem dX8_pipes_13 : decode cX8_pipes 13 = .ok (.ifCond .ne 5, 3) := by decide +kernel
theorem dX8_pipes_16 : decode cX8_pipes 16 = .ok (.iconst (-1), 1) := by decide +kernel
theorem dX8_pipes_17 : decode cX8_pipes 17 = .ok (.ireturn, 1) := by decide +kernel
theorem dX8_pipes_18 : decode cX8_pipes 18 = .ok (.iload_n 1, 1) := by decide +kernel
theorem dX8_pipes_19 : decode cX8_pipes 19 = .ok (.iconst 2, 1) := by decide +kernel
theorem dX8_pipes_20 : decode cX8_pipes 20 = .ok (.if_icmp .ge 7, 3) := by decide +kernel
theorem dX8_pipes_23 : decode cX8_pipes 23 = .ok (.iconst 1, 1) := by decide +kernel
theorem dX8_pipes_24 : decode cX8_pipes 24 = .ok (.goto 4, 3) := by decide +kernel
theorem dX8_pipes_27 : decode cX8_pipes 27 = .ok (.iconst 2, 1) := by decide +kernel
theorem dX8_pipes_28 : decode cX8_pipes 28 = .ok (.istore_n 2, 1) := by decide +kernel
theorem dX8_pipes_29 : decode cX8_pipes 29 = .ok (.bipush (-4), 2) := by decide +kernel
theorem dX8_pipes_31 : decode cX8_pipes 31 = .ok (.istore_n 3, 1) := by decide +kernel
theorem dX8_pipes_32 : decode cX8_pipes 32 = .ok (.iconst 0, 1) := by decide +kernel
theorem dX8_pipes_33 : decode cX8_pipes 33 = .ok (.istore 4, 2) := by decide +kernel
theorem dX8_pipes_35 : decode cX8_pipes 35 = .ok (.iload 4, 2) := by decide +kernel
theorem dX8_pipes_37 : decode cX8_pipes 37 = .ok (.iconst 1, 1) := by decide +kernel
theorem dX8_pipes_38 : decode cX8_pipes 38 = .ok (.aload_n 0, 1) := by decide +kernel
theorem dX8_pipes_39 : decode cX8_pipes 39 = .ok (.getfield 7, 3) := by decide +kernel
theorem dX8_pipes_42 : decode cX8_pipes 42 = .ok (.bipush 113, 2) := by decide +kernel
theorem dX8_pipes_44 : decode cX8_pipes 44 = .ok (.iaload, 1) := by decide +kernel
theorem dX8_pipes_45 : decode cX8_pipes 45 = .ok (.ishl, 1) := by decide +kernel
theorem dX8_pipes_46 : decode cX8_pipes 46 = .ok (.if_icmp .ge 45, 3) := by decide +kernel
theorem dX8_pipes_49 : decode cX8_pipes 49 = .ok (.iload 4, 2) := by decide +kernel
theorem dX8_pipes_51 : decode cX8_pipes 51 = .ok (.invokestatic 262, 3) := by decide +kernel
theorem dX8_pipes_54 : decode cX8_pipes 54 = .ok (.iload_n 2, 1) := by decide +kernel
theorem dX8_pipes_55 : decode cX8_pipes 55 = .ok (.if_icmp .ne 28, 3) := by decide +kernel
theorem dX8_pipes_58 : decode cX8_pipes 58 = .ok (.iload_n 3, 1) := by decide +kernel
theorem dX8_pipes_59 : decode cX8_pipes 59 = .ok (.bipush (-4), 2) := by decide +kernel
theorem dX8_pipes_61 : decode cX8_pipes 61 = .ok (.if_icmp .eq 17, 3) := by decide +kernel
theorem dX8_pipes_64 : decode cX8_pipes 64 = .ok (.aload_n 0, 1) := by decide +kernel
theorem dX8_pipes_65 : decode cX8_pipes 65 = .ok (.iload 4, 2) := by decide +kernel
theorem dX8_pipes_67 : decode cX8_pipes 67 = .ok (.invokevirtual 265, 3) := by decide +kernel
theorem dX8_pipes_70 : decode cX8_pipes 70 = .ok (.aload_n 0, 1) := by decide +kernel
theorem dX8_pipes_71 : decode cX8_pipes 71 = .ok (.iload_n 3, 1) := by decide +kernel
theorem dX8_pipes_72 : decode cX8_pipes 72 = .ok (.invokevirtual 265, 3) := by decide +kernel
theorem dX8_pipes_75 : decode cX8_pipes 75 = .ok (.if_icmp .ge 8, 3) := by decide +kernel
theorem dX8_pipes_78 : decode cX8_pipes 78 = .ok (.iload 4, 2) := by decide +kernel
theorem dX8_pipes_80 : decode cX8_pipes 80 = .ok (.goto 4, 3) := by decide +kernel
theorem dX8_pipes_83 : decode cX8_pipes 83 = .ok (.iload_n 3, 1) := by decide +kernel
theorem dX8_pipes_84 : decode cX8_pipes 84 = .ok (.istore_n 3, 1) := by decide +kernel
theorem dX8_pipes_85 : decode cX8_pipes 85 = .ok (.iinc 4 1, 3) := by decide +kernel
theorem dX8_pipes_88 : decode cX8_pipes 88 = .ok (.goto (-53), 3) := by decide +kernel
theorem dX8_pipes_91 : decode cX8_pipes 91 = .ok (.iload_n 3, 1) := by decide +kernel
theorem dX8_pipes_92 : decode cX8_pipes 92 = .ok (.bipush (-4), 2) := by decide +kernel
theorem dX8_pipes_94 : decode cX8_pipes 94 = .ok (.if_icmp .eq 8, 3) := by decide +kernel
theorem dX8_pipes_97 : decode cX8_pipes 97 = .ok (.iload_n 1, 1) := by decide +kernel
theorem dX8_pipes_98 : decode cX8_pipes 98 = .ok (.iconst 3, 1) := by decide +kernel
theorem dX8_pipes_99 : decode cX8_pipes 99 = .ok (.if_icmp .ne 5, 3) := by decide +kernel
theorem dX8_pipes_102 : decode cX8_pipes 102 = .ok (.iload_n 3, 1) := by decide +kernel
theorem dX8_pipes_103 : decode cX8_pipes 103 = .ok (.ireturn, 1) := by decide +kernel
theorem dX8_pipes_104 : decode cX8_pipes 104 = .ok (.iload_n 1, 1) := by decide +kernel
theorem dX8_pipes_105 : decode cX8_pipes 105 = .ok (.iconst 1, 1) := by decide +kernel
theorem dX8_pipes_106 : decode cX8_pipes 106 = .ok (.if_icmp .ne 23, 3) := by decide +kernel
theorem dX8_pipes_109 : decode cX8_pipes 109 = .ok (.iconst 0, 1) := by decide +kernel
theorem dX8_pipes_110 : decode cX8_pipes 110 = .ok (.istore 4, 2) := by decide +kernel
theorem dX8_pipes_112 : decode cX8_pipes 112 = .ok (.iload_n 3, 1) := by decide +kernel
theorem dX8_pipes_113 : decode cX8_pipes 113 = .ok (.iload 4, 2) := by decide +kernel
theorem dX8_pipes_115 : decode cX8_pipes 115 = .ok (.ishr, 1) := by decide +kernel
theorem dX8_pipes_116 : decode cX8_pipes 116 = .ok (.iconst 1, 1) := by decide +kernel
theorem dX8_pipes_117 : decode cX8_pipes 117 = .ok (.if_icmp .eq 9, 3) := by decide +kernel
theorem dX8_pipes_120 : decode cX8_pipes 120 = .ok (.iinc 4 1, 3) := by decide +kernel
theorem dX8_pipes_123 : decode cX8_pipes 123 = .ok (.goto (-11), 3) := by decide +kernel
theorem dX8_pipes_126 : decode cX8_pipes 126 = .ok (.iload 4, 2) := by decide +kernel
theorem dX8_pipes_128 : decode cX8_pipes 128 = .ok (.ireturn, 1) := by decide +kernel
theorem dX8_pipes_129 : decode cX8_pipes 129 = .ok (.aload_n 0, 1) := by decide +kernel
theorem dX8_pipes_130 : decode cX8_pipes 130 = .ok (.iload_n 3, 1) := by decide +kernel
theorem dX8_pipes_131 : decode cX8_pipes 131 = .ok (.invokevirtual 265, 3) := by decide +kernel
theorem dX8_pipes_134 : decode cX8_pipes 134 = .ok (.ireturn, 1) := by decide +kernel
theorem dX8_canRun_0 : decode cX8_canRun 0 = .ok (.aload_n 0, 1) := by decide +kernel
theorem dX8_canRun_1 : decode cX8_canRun 1 = .ok (.getfield 7, 3) := by decide +kernel
theorem dX8_canRun_4 : decode cX8_canRun 4 = .ok (.iconst 0, 1) := by decide +kernel
theorem dX8_canRun_5 : decode cX8_canRun 5 = .ok (.aload_n 0, 1) := by decide +kernel
theorem dX8_canRun_6 : decode cX8_canRun 6 = .ok (.iload_n 1, 1) := by decide +kernel
theorem dX8_canRun_7 : decode cX8_canRun 7 = .ok (.invokevirtual 184, 3) := by decide +kernel
theorem dX8_canRun_10 : decode cX8_canRun 10 = .ok (.iadd, 1) := by decide +kernel
theorem dX8_canRun_11 : decode cX8_canRun 11 = .ok (.iaload, 1) := by decide +kernel
theorem dX8_canRun_12 : decode cX8_canRun 12 = .ok (.aload_n 0, 1) := by decide +kernel
theorem dX8_canRun_13 : decode cX8_canRun 13 = .ok (.getfield 7, 3) := by decide +kernel
theorem dX8_canRun_16 : decode cX8_canRun 16 = .ok (.iconst 0, 1) := by decide +kernel
theorem dX8_canRun_17 : decode cX8_canRun 17 = .ok (.aload_n 0, 1) := by decide +kernel
theorem dX8_canRun_18 : decode cX8_canRun 18 = .ok (.iload_n 2, 1) := by decide +kernel
theorem dX8_canRun_19 : decode cX8_canRun 19 = .ok (.invokevirtual 184, 3) := by decide +kernel
theorem dX8_canRun_22 : decode cX8_canRun 22 = .ok (.iadd, 1) := by decide +kernel
theorem dX8_canRun_23 : decode cX8_canRun 23 = .ok (.iaload, 1) := by decide +kernel
theorem dX8_canRun_24 : decode cX8_canRun 24 = .ok (.invokestatic 196, 3) := by decide +kernel
theorem dX8_canRun_27 : decode cX8_canRun 27 = .ok (.istore_n 3, 1) := by decide +kernel
theorem dX8_canRun_28 : decode cX8_canRun 28 = .ok (.aload_n 0, 1) := by decide +kernel
theorem dX8_canRun_29 : decode cX8_canRun 29 = .ok (.iload_n 1, 1) := by decide +kernel
theorem dX8_canRun_30 : decode cX8_canRun 30 = .ok (.invokevirtual 184, 3) := by decide +kernel
theorem dX8_canRun_33 : decode cX8_canRun 33 = .ok (.aload_n 0, 1) := by decide +kernel
theorem dX8_canRun_34 : decode cX8_canRun 34 = .ok (.iload_n 2, 1) := by decide +kernel
theorem dX8_canRun_35 : decode cX8_canRun 35 = .ok (.invokevirtual 184, 3) := by decide +kernel
theorem dX8_canRun_38 : decode cX8_canRun 38 = .ok (.if_icmp .ne 7, 3) := by decide +kernel
theorem dX8_canRun_41 : decode cX8_canRun 41 = .ok (.iconst 1, 1) := by decide +kernel
theorem dX8_canRun_42 : decode cX8_canRun 42 = .ok (.goto 11, 3) := by decide +kernel
theorem dX8_canRun_45 : decode cX8_canRun 45 = .ok (.aload_n 0, 1) := by decide +kernel
theorem dX8_canRun_46 : decode cX8_canRun 46 = .ok (.getfield 13, 3) := by decide +kernel
theorem dX8_canRun_49 : decode cX8_canRun 49 = .ok (.iconst 3, 1) := by decide +kernel
theorem dX8_canRun_50 : decode cX8_canRun 50 = .ok (.iaload, 1) := by decide +kernel
theorem dX8_canRun_51 : decode cX8_canRun 51 = .ok (.iload_n 3, 1) := by decide +kernel
theorem dX8_canRun_52 : decode cX8_canRun 52 = .ok (.imul, 1) := by decide +kernel
theorem dX8_canRun_53 : decode cX8_canRun 53 = .ok (.istore 4, 2) := by decide +kernel
theorem dX8_canRun_55 : decode cX8_canRun 55 = .ok (.aload_n 0, 1) := by decide +kernel
theorem dX8_canRun_56 : decode cX8_canRun 56 = .ok (.iload_n 2, 1) := by decide +kernel
theorem dX8_canRun_57 : decode cX8_canRun 57 = .ok (.invokevirtual 217, 3) := by decide +kernel
theorem dX8_canRun_60 : decode cX8_canRun 60 = .ok (.aload_n 0, 1) := by decide +kernel
theorem dX8_canRun_61 : decode cX8_canRun 61 = .ok (.iload_n 1, 1) := by decide +kernel
theorem dX8_canRun_62 : decode cX8_canRun 62 = .ok (.invokevirtual 217, 3) := by decide +kernel
theorem dX8_canRun_65 : decode cX8_canRun 65 = .ok (.isub, 1) := by decide +kernel
theorem dX8_canRun_66 : decode cX8_canRun 66 = .ok (.iload 4, 2) := by decide +kernel
theorem dX8_canRun_68 : decode cX8_canRun 68 = .ok (.iconst 1, 1) := by decide +kernel
theorem dX8_canRun_69 : decode cX8_canRun 69 = .ok (.if_icmp .ge 7, 3) := by decide +kernel
theorem dX8_canRun_72 : decode cX8_canRun 72 = .ok (.iconst 1, 1) := by decide +kernel
theorem dX8_canRun_73 : decode cX8_canRun 73 = .ok (.goto 5, 3) := by decide +kernel
theorem dX8_canRun_76 : decode cX8_canRun 76 = .ok (.iload 4, 2) := by decide +kernel
theorem dX8_canRun_78 : decode cX8_canRun 78 = .ok (.if_icmp .lt 7, 3) := by decide +kernel
theorem dX8_canRun_81 : decode cX8_canRun 81 = .ok (.iconst 1, 1) := by decide +kernel
theorem dX8_canRun_82 : decode cX8_canRun 82 = .ok (.goto 4, 3) := by decide +kernel
theorem dX8_canRun_85 : decode cX8_canRun 85 = .ok (.iconst 0, 1) := by decide +kernel
theorem dX8_canRun_86 : decode cX8_canRun 86 = .ok (.ireturn, 1) := by decide +kernel
theorem dX8_pairs_0 : decode cX8_pairs 0 = .ok (.aload_n 0, 1) := by decide +kernel
theorem dX8_pairs_1 : decode cX8_pairs 1 = .ok (.invokevirtual 181, 3) := by decide +kernel
theorem dX8_pairs_4 : decode cX8_pairs 4 = .ok (.istore_n 2, 1) := by decide +kernel
theorem dX8_pairs_5 : decode cX8_pairs 5 = .ok (.iconst 0, 1) := by decide +kernel
theorem dX8_pairs_6 : decode cX8_pairs 6 = .ok (.istore_n 3, 1) := by decide +kernel
theorem dX8_pairs_7 : decode cX8_pairs 7 = .ok (.iconst 1, 1) := by decide +kernel
theorem dX8_pairs_8 : decode cX8_pairs 8 = .ok (.istore 4, 2) := by decide +kernel
theorem dX8_pairs_10 : decode cX8_pairs 10 = .ok (.aload_n 0, 1) := by decide +kernel
theorem dX8_pairs_11 : decode cX8_pairs 11 = .ok (.getfield 52, 3) := by decide +kernel
theorem dX8_pairs_14 : decode cX8_pairs 14 = .ok (.iconst 0, 1) := by decide +kernel
theorem dX8_pairs_15 : decode cX8_pairs 15 = .ok (.iload_n 1, 1) := by decide +kernel
theorem dX8_pairs_16 : decode cX8_pairs 16 = .ok (.iastore, 1) := by decide +kernel
theorem dX8_pairs_17 : decode cX8_pairs 17 = .ok (.iconst 0, 1) := by decide +kernel
theorem dX8_pairs_18 : decode cX8_pairs 18 = .ok (.istore 5, 2) := by decide +kernel
theorem dX8_pairs_20 : decode cX8_pairs 20 = .ok (.iload 5, 2) := by decide +kernel
theorem dX8_pairs_22 : decode cX8_pairs 22 = .ok (.iload_n 2, 1) := by decide +kernel
theorem dX8_pairs_23 : decode cX8_pairs 23 = .ok (.if_icmp .ge 18, 3) := by decide +kernel
theorem dX8_pairs_26 : decode cX8_pairs 26 = .ok (.aload_n 0, 1) := by decide +kernel
theorem dX8_pairs_27 : decode cX8_pairs 27 = .ok (.getfield 55, 3) := by decide +kernel
theorem dX8_pairs_30 : decode cX8_pairs 30 = .ok (.iload 5, 2) := by decide +kernel
theorem dX8_pairs_32 : decode cX8_pairs 32 = .ok (.bipush (-4), 2) := by decide +kernel
theorem dX8_pairs_34 : decode cX8_pairs 34 = .ok (.iastore, 1) := by decide +kernel
theorem dX8_pairs_35 : decode cX8_pairs 35 = .ok (.iinc 5 1, 3) := by decide +kernel
theorem dX8_pairs_38 : decode cX8_pairs 38 = .ok (.goto (-18), 3) := by decide +kernel
theorem dX8_pairs_41 : decode cX8_pairs 41 = .ok (.iload_n 3, 1) := by decide +kernel
theorem dX8_pairs_42 : decode cX8_pairs 42 = .ok (.iload 4, 2) := by decide +kernel
theorem dX8_pairs_44 : decode cX8_pairs 44 = .ok (.if_icmp .ge 108, 3) := by decide +kernel
theorem dX8_pairs_47 : decode cX8_pairs 47 = .ok (.aload_n 0, 1) := by decide +kernel
theorem dX8_pairs_48 : decode cX8_pairs 48 = .ok (.getfield 52, 3) := by decide +kernel
theorem dX8_pairs_51 : decode cX8_pairs 51 = .ok (.iload_n 3, 1) := by decide +kernel
theorem dX8_pairs_52 : decode cX8_pairs 52 = .ok (.iaload, 1) := by decide +kernel
theorem dX8_pairs_53 : decode cX8_pairs 53 = .ok (.istore 5, 2) := by decide +kernel
theorem dX8_pairs_55 : decode cX8_pairs 55 = .ok (.iinc 3 1, 3) := by decide +kernel
theorem dX8_pairs_58 : decode cX8_pairs 58 = .ok (.iconst 0, 1) := by decide +kernel
theorem dX8_pairs_59 : decode cX8_pairs 59 = .ok (.istore 6, 2) := by decide +kernel
theorem dX8_pairs_61 : decode cX8_pairs 61 = .ok (.iload 6, 2) := by decide +kernel
theorem dX8_pairs_63 : decode cX8_pairs 63 = .ok (.iload_n 2, 1) := by decide +kernel
theorem dX8_pairs_64 : decode cX8_pairs 64 = .ok (.if_icmp .ge 85, 3) := by decide +kernel
theorem dX8_pairs_67 : decode cX8_pairs 67 = .ok (.iload 6, 2) := by decide +kernel
theorem dX8_pairs_69 : decode cX8_pairs 69 = .ok (.iload 5, 2) := by decide +kernel
theorem dX8_pairs_71 : decode cX8_pairs 71 = .ok (.if_icmp .eq 72, 3) := by decide +kernel
theorem dX8_pairs_74 : decode cX8_pairs 74 = .ok (.aload_n 0, 1) := by decide +kernel
theorem dX8_pairs_75 : decode cX8_pairs 75 = .ok (.getfield 55, 3) := by decide +kernel
theorem dX8_pairs_78 : decode cX8_pairs 78 = .ok (.iload 6, 2) := by decide +kernel
theorem dX8_pairs_80 : decode cX8_pairs 80 = .ok (.iaload, 1) := by decide +kernel
theorem dX8_pairs_81 : decode cX8_pairs 81 = .ok (.bipush (-4), 2) := by decide +kernel
theorem dX8_pairs_83 : decode cX8_pairs 83 = .ok (.if_icmp .ne 60, 3) := by decide +kernel
theorem dX8_pairs_86 : decode cX8_pairs 86 = .ok (.aload_n 0, 1) := by decide +kernel
theorem dX8_pairs_87 : decode cX8_pairs 87 = .ok (.iload 5, 2) := by decide +kernel
theorem dX8_pairs_89 : decode cX8_pairs 89 = .ok (.iload 6, 2) := by decide +kernel
theorem dX8_pairs_91 : decode cX8_pairs 91 = .ok (.invokevirtual 268, 3) := by decide +kernel
theorem dX8_pairs_94 : decode cX8_pairs 94 = .ok (.ifCond .eq 49, 3) := by decide +kernel
theorem dX8_pairs_97 : decode cX8_pairs 97 = .ok (.aload_n 0, 1) := by decide +kernel
theorem dX8_pairs_98 : decode cX8_pairs 98 = .ok (.getfield 55, 3) := by decide +kernel
theorem dX8_pairs_101 : decode cX8_pairs 101 = .ok (.iload 6, 2) := by decide +kernel
theorem dX8_pairs_103 : decode cX8_pairs 103 = .ok (.iload 5, 2) := by decide +kernel
theorem dX8_pairs_105 : decode cX8_pairs 105 = .ok (.iastore, 1) := by decide +kernel
theorem dX8_pairs_106 : decode cX8_pairs 106 = .ok (.aload_n 0, 1) := by decide +kernel
theorem dX8_pairs_107 : decode cX8_pairs 107 = .ok (.getfield 49, 3) := by decide +kernel
theorem dX8_pairs_110 : decode cX8_pairs 110 = .ok (.iload 6, 2) := by decide +kernel
theorem dX8_pairs_112 : decode cX8_pairs 112 = .ok (.iaload, 1) := by decide +kernel
theorem dX8_pairs_113 : decode cX8_pairs 113 = .ok (.bipush (-4), 2) := by decide +kernel
theorem dX8_pairs_115 : decode cX8_pairs 115 = .ok (.if_icmp .ne 11, 3) := by decide +kernel
theorem dX8_pairs_118 : decode cX8_pairs 118 = .ok (.aload_n 0, 1) := by decide +kernel
theorem dX8_pairs_119 : decode cX8_pairs 119 = .ok (.iload 6, 2) := by decide +kernel
theorem dX8_pairs_121 : decode cX8_pairs 121 = .ok (.invokevirtual 271, 3) := by decide +kernel
theorem dX8_pairs_124 : decode cX8_pairs 124 = .ok (.iconst 1, 1) := by decide +kernel
theorem dX8_pairs_125 : decode cX8_pairs 125 = .ok (.ireturn, 1) := by decide +kernel
theorem dX8_pairs_126 : decode cX8_pairs 126 = .ok (.aload_n 0, 1) := by decide +kernel
theorem dX8_pairs_127 : decode cX8_pairs 127 = .ok (.getfield 52, 3) := by decide +kernel
theorem dX8_pairs_130 : decode cX8_pairs 130 = .ok (.iload 4, 2) := by decide +kernel
theorem dX8_pairs_132 : decode cX8_pairs 132 = .ok (.aload_n 0, 1) := by decide +kernel
theorem dX8_pairs_133 : decode cX8_pairs 133 = .ok (.getfield 49, 3) := by decide +kernel
theorem dX8_pairs_136 : decode cX8_pairs 136 = .ok (.iload 6, 2) := by decide +kernel
theorem dX8_pairs_138 : decode cX8_pairs 138 = .ok (.iaload, 1) := by decide +kernel
theorem dX8_pairs_139 : decode cX8_pairs 139 = .ok (.iastore, 1) := by decide +kernel
theorem dX8_pairs_140 : decode cX8_pairs 140 = .ok (.iinc 4 1, 3) := by decide +kernel
theorem dX8_pairs_143 : decode cX8_pairs 143 = .ok (.iinc 6 1, 3) := by decide +kernel
theorem dX8_pairs_146 : decode cX8_pairs 146 = .ok (.goto (-85), 3) := by decide +kernel
theorem dX8_pairs_149 : decode cX8_pairs 149 = .ok (.goto (-108), 3) := by decide +kernel
theorem dX8_pairs_152 : decode cX8_pairs 152 = .ok (.iconst 0, 1) := by decide +kernel
theorem dX8_pairs_153 : decode cX8_pairs 153 = .ok (.ireturn, 1) := by decide +kernel
theorem dX8_turns_0 : decode cX8_turns 0 = .ok (.iload_n 1, 1) := by decide +kernel
theorem dX8_turns_1 : decode cX8_turns 1 = .ok (.istore_n 2, 1) := by decide +kernel
theorem dX8_turns_2 : decode cX8_turns 2 = .ok (.iload_n 2, 1) := by decide +kernel
theorem dX8_turns_3 : decode cX8_turns 3 = .ok (.bipush (-4), 2) := by decide +kernel
theorem dX8_turns_5 : decode cX8_turns 5 = .ok (.if_icmp .eq 38, 3) := by decide +kernel
theorem dX8_turns_8 : decode cX8_turns 8 = .ok (.aload_n 0, 1) := by decide +kernel
theorem dX8_turns_9 : decode cX8_turns 9 = .ok (.getfield 55, 3) := by decide +kernel
theorem dX8_turns_12 : decode cX8_turns 12 = .ok (.iload_n 2, 1) := by decide +kernel
theorem dX8_turns_13 : decode cX8_turns 13 = .ok (.iaload, 1) := by decide +kernel
theorem dX8_turns_14 : decode cX8_turns 14 = .ok (.istore_n 3, 1) := by decide +kernel
theorem dX8_turns_15 : decode cX8_turns 15 = .ok (.aload_n 0, 1) := by decide +kernel
theorem dX8_turns_16 : decode cX8_turns 16 = .ok (.getfield 46, 3) := by decide +kernel
theorem dX8_turns_19 : decode cX8_turns 19 = .ok (.iload_n 3, 1) := by decide +kernel
theorem dX8_turns_20 : decode cX8_turns 20 = .ok (.iaload, 1) := by decide +kernel
theorem dX8_turns_21 : decode cX8_turns 21 = .ok (.istore 4, 2) := by decide +kernel
theorem dX8_turns_23 : decode cX8_turns 23 = .ok (.aload_n 0, 1) := by decide +kernel
theorem dX8_turns_24 : decode cX8_turns 24 = .ok (.getfield 46, 3) := by decide +kernel
theorem dX8_turns_27 : decode cX8_turns 27 = .ok (.iload_n 3, 1) := by decide +kernel
theorem dX8_turns_28 : decode cX8_turns 28 = .ok (.iload_n 2, 1) := by decide +kernel
theorem dX8_turns_29 : decode cX8_turns 29 = .ok (.iastore, 1) := by decide +kernel
theorem dX8_turns_30 : decode cX8_turns 30 = .ok (.aload_n 0, 1) := by decide +kernel
theorem dX8_turns_31 : decode cX8_turns 31 = .ok (.getfield 49, 3) := by decide +kernel
theorem dX8_turns_34 : decode cX8_turns 34 = .ok (.iload_n 2, 1) := by decide +kernel
theorem dX8_turns_35 : decode cX8_turns 35 = .ok (.iload_n 3, 1) := by decide +kernel
theorem dX8_turns_36 : decode cX8_turns 36 = .ok (.iastore, 1) := by decide +kernel
theorem dX8_turns_37 : decode cX8_turns 37 = .ok (.iload 4, 2) := by decide +kernel
theorem dX8_turns_39 : decode cX8_turns 39 = .ok (.istore_n 2, 1) := by decide +kernel
theorem dX8_turns_40 : decode cX8_turns 40 = .ok (.goto (-38), 3) := by decide +kernel
theorem dX8_turns_43 : decode cX8_turns 43 = .ok (.return_, 1) := by decide +kernel
theorem dX8_men_0 : decode cX8_men 0 = .ok (.aload_n 0, 1) := by decide +kernel
theorem dX8_men_1 : decode cX8_men 1 = .ok (.invokevirtual 181, 3) := by decide +kernel
theorem dX8_men_4 : decode cX8_men 4 = .ok (.istore_n 1, 1) := by decide +kernel
theorem dX8_men_5 : decode cX8_men 5 = .ok (.iconst 0, 1) := by decide +kernel
theorem dX8_men_6 : decode cX8_men 6 = .ok (.istore_n 2, 1) := by decide +kernel
theorem dX8_men_7 : decode cX8_men 7 = .ok (.iload_n 2, 1) := by decide +kernel
theorem dX8_men_8 : decode cX8_men 8 = .ok (.bipush 24, 2) := by decide +kernel
theorem dX8_men_10 : decode cX8_men 10 = .ok (.if_icmp .ge 25, 3) := by decide +kernel
theorem dX8_men_13 : decode cX8_men 13 = .ok (.aload_n 0, 1) := by decide +kernel
theorem dX8_men_14 : decode cX8_men 14 = .ok (.getfield 46, 3) := by decide +kernel
theorem dX8_men_17 : decode cX8_men 17 = .ok (.iload_n 2, 1) := by decide +kernel
theorem dX8_men_18 : decode cX8_men 18 = .ok (.bipush (-4), 2) := by decide +kernel
theorem dX8_men_20 : decode cX8_men 20 = .ok (.iastore, 1) := by decide +kernel
theorem dX8_men_21 : decode cX8_men 21 = .ok (.aload_n 0, 1) := by decide +kernel
theorem dX8_men_22 : decode cX8_men 22 = .ok (.getfield 49, 3) := by decide +kernel
theorem dX8_men_25 : decode cX8_men 25 = .ok (.iload_n 2, 1) := by decide +kernel
theorem dX8_men_26 : decode cX8_men 26 = .ok (.bipush (-4), 2) := by decide +kernel
theorem dX8_men_28 : decode cX8_men 28 = .ok (.iastore, 1) := by decide +kernel
theorem dX8_men_29 : decode cX8_men 29 = .ok (.iinc 2 1, 3) := by decide +kernel
theorem dX8_men_32 : decode cX8_men 32 = .ok (.goto (-25), 3) := by decide +kernel
theorem dX8_men_35 : decode cX8_men 35 = .ok (.iload_n 1, 1) := by decide +kernel
theorem dX8_men_36 : decode cX8_men 36 = .ok (.istore_n 2, 1) := by decide +kernel
theorem dX8_men_37 : decode cX8_men 37 = .ok (.iconst 0, 1) := by decide +kernel
theorem dX8_men_38 : decode cX8_men 38 = .ok (.istore_n 3, 1) := by decide +kernel
theorem dX8_men_39 : decode cX8_men 39 = .ok (.iload_n 3, 1) := by decide +kernel
theorem dX8_men_40 : decode cX8_men 40 = .ok (.iload_n 1, 1) := by decide +kernel
theorem dX8_men_41 : decode cX8_men 41 = .ok (.if_icmp .ge 25, 3) := by decide +kernel
theorem dX8_men_44 : decode cX8_men 44 = .ok (.iload_n 2, 1) := by decide +kernel
theorem dX8_men_45 : decode cX8_men 45 = .ok (.aload_n 0, 1) := by decide +kernel
theorem dX8_men_46 : decode cX8_men 46 = .ok (.iload_n 3, 1) := by decide +kernel
theorem dX8_men_47 : decode cX8_men 47 = .ok (.invokevirtual 274, 3) := by decide +kernel
theorem dX8_men_50 : decode cX8_men 50 = .ok (.ifCond .eq 7, 3) := by decide +kernel
theorem dX8_men_53 : decode cX8_men 53 = .ok (.iconst 1, 1) := by decide +kernel
theorem dX8_men_54 : decode cX8_men 54 = .ok (.goto 4, 3) := by decide +kernel
theorem dX8_men_57 : decode cX8_men 57 = .ok (.iconst 0, 1) := by decide +kernel
theorem dX8_men_58 : decode cX8_men 58 = .ok (.isub, 1) := by decide +kernel
theorem dX8_men_59 : decode cX8_men 59 = .ok (.istore_n 2, 1) := by decide +kernel
theorem dX8_men_60 : decode cX8_men 60 = .ok (.iinc 3 1, 3) := by decide +kernel
theorem dX8_men_63 : decode cX8_men 63 = .ok (.goto (-24), 3) := by decide +kernel
theorem dX8_men_66 : decode cX8_men 66 = .ok (.iload_n 2, 1) := by decide +kernel
theorem dX8_men_67 : decode cX8_men 67 = .ok (.ireturn, 1) := by decide +kernel
theorem dX8_runs_0 : decode cX8_runs 0 = .ok (.iload_n 1, 1) := by decide +kernel
theorem dX8_runs_1 : decode cX8_runs 1 = .ok (.i2l, 1) := by decide +kernel
theorem dX8_runs_2 : decode cX8_runs 2 = .ok (.lconst 0, 1) := by decide +kernel
theorem dX8_runs_3 : decode cX8_runs 3 = .ok (.aload_n 0, 1) := by decide +kernel
theorem dX8_runs_4 : decode cX8_runs 4 = .ok (.invokevirtual 181, 3) := by decide +kernel
theorem dX8_runs_7 : decode cX8_runs 7 = .ok (.iconst 1, 1) := by decide +kernel
theorem dX8_runs_8 : decode cX8_runs 8 = .ok (.isub, 1) := by decide +kernel
theorem dX8_runs_9 : decode cX8_runs 9 = .ok (.i2l, 1) := by decide +kernel
theorem dX8_runs_10 : decode cX8_runs 10 = .ok (.invokestatic 79, 3) := by decide +kernel
theorem dX8_runs_13 : decode cX8_runs 13 = .ok (.ifCond .eq 24, 3) := by decide +kernel
theorem dX8_runs_16 : decode cX8_runs 16 = .ok (.iload_n 2, 1) := by decide +kernel
theorem dX8_runs_17 : decode cX8_runs 17 = .ok (.i2l, 1) := by decide +kernel
theorem dX8_runs_18 : decode cX8_runs 18 = .ok (.lconst 0, 1) := by decide +kernel
theorem dX8_runs_19 : decode cX8_runs 19 = .ok (.aload_n 0, 1) := by decide +kernel
theorem dX8_runs_20 : decode cX8_runs 20 = .ok (.invokevirtual 181, 3) := by decide +kernel
theorem dX8_runs_23 : decode cX8_runs 23 = .ok (.iconst 1, 1) := by decide +kernel
theorem dX8_runs_24 : decode cX8_runs 24 = .ok (.isub, 1) := by decide +kernel
theorem dX8_runs_25 : decode cX8_runs 25 = .ok (.i2l, 1) := by decide +kernel
theorem dX8_runs_26 : decode cX8_runs 26 = .ok (.invokestatic 79, 3) := by decide +kernel
theorem dX8_runs_29 : decode cX8_runs 29 = .ok (.ifCond .eq 8, 3) := by decide +kernel
theorem dX8_runs_32 : decode cX8_runs 32 = .ok (.iload_n 1, 1) := by decide +kernel
theorem dX8_runs_33 : decode cX8_runs 33 = .ok (.iload_n 2, 1) := by decide +kernel
theorem dX8_runs_34 : decode cX8_runs 34 = .ok (.if_icmp .ne 5, 3) := by decide +kernel
theorem dX8_runs_37 : decode cX8_runs 37 = .ok (.iconst (-1), 1) := by decide +kernel
theorem dX8_runs_38 : decode cX8_runs 38 = .ok (.ireturn, 1) := by decide +kernel
theorem dX8_runs_39 : decode cX8_runs 39 = .ok (.aload_n 0, 1) := by decide +kernel
theorem dX8_runs_40 : decode cX8_runs 40 = .ok (.iload_n 1, 1) := by decide +kernel
theorem dX8_runs_41 : decode cX8_runs 41 = .ok (.iload_n 2, 1) := by decide +kernel
theorem dX8_runs_42 : decode cX8_runs 42 = .ok (.invokevirtual 268, 3) := by decide +kernel
theorem dX8_runs_45 : decode cX8_runs 45 = .ok (.ifCond .eq 7, 3) := by decide +kernel
theorem dX8_runs_48 : decode cX8_runs 48 = .ok (.iconst 1, 1) := by decide +kernel
theorem dX8_runs_49 : decode cX8_runs 49 = .ok (.goto 4, 3) := by decide +kernel
theorem dX8_runs_52 : decode cX8_runs 52 = .ok (.iconst 0, 1) := by decide +kernel
theorem dX8_runs_53 : decode cX8_runs 53 = .ok (.ireturn, 1) := by decide +kernel
theorem dX8_noteds_0 : decode cX8_noteds 0 = .ok (.aload_n 0, 1) := by decide +kernel
theorem dX8_noteds_1 : decode cX8_noteds 1 = .ok (.getfield 7, 3) := by decide +kernel
theorem dX8_noteds_4 : decode cX8_noteds 4 = .ok (.bipush 112, 2) := by decide +kernel
theorem dX8_noteds_6 : decode cX8_noteds 6 = .ok (.iaload, 1) := by decide +kernel
theorem dX8_noteds_7 : decode cX8_noteds 7 = .ok (.ireturn, 1) := by decide +kernel
theorem dX8_noted_0 : decode cX8_noted 0 = .ok (.iload_n 1, 1) := by decide +kernel
theorem dX8_noted_1 : decode cX8_noted 1 = .ok (.i2l, 1) := by decide +kernel
theorem dX8_noted_2 : decode cX8_noted 2 = .ok (.lconst 0, 1) := by decide +kernel
theorem dX8_noted_3 : decode cX8_noted 3 = .ok (.ldc2_w 277, 3) := by decide +kernel
theorem dX8_noted_6 : decode cX8_noted 6 = .ok (.invokestatic 79, 3) := by decide +kernel
theorem dX8_noted_9 : decode cX8_noted 9 = .ok (.ifCond .ne 5, 3) := by decide +kernel
theorem dX8_noted_12 : decode cX8_noted 12 = .ok (.iconst (-1), 1) := by decide +kernel
theorem dX8_noted_13 : decode cX8_noted 13 = .ok (.ireturn, 1) := by decide +kernel
theorem dX8_noted_14 : decode cX8_noted 14 = .ok (.aload_n 0, 1) := by decide +kernel
theorem dX8_noted_15 : decode cX8_noted 15 = .ok (.invokevirtual 279, 3) := by decide +kernel
theorem dX8_noted_18 : decode cX8_noted 18 = .ok (.aload_n 0, 1) := by decide +kernel
theorem dX8_noted_19 : decode cX8_noted 19 = .ok (.invokevirtual 181, 3) := by decide +kernel
theorem dX8_noted_22 : decode cX8_noted 22 = .ok (.if_icmp .ne 6, 3) := by decide +kernel
theorem dX8_noted_25 : decode cX8_noted 25 = .ok (.bipush (-2), 2) := by decide +kernel
theorem dX8_noted_27 : decode cX8_noted 27 = .ok (.ireturn, 1) := by decide +kernel
theorem dX8_noted_28 : decode cX8_noted 28 = .ok (.aload_n 0, 1) := by decide +kernel
theorem dX8_noted_29 : decode cX8_noted 29 = .ok (.getfield 7, 3) := by decide +kernel
theorem dX8_noted_32 : decode cX8_noted 32 = .ok (.bipush 88, 2) := by decide +kernel
theorem dX8_noted_34 : decode cX8_noted 34 = .ok (.aload_n 0, 1) := by decide +kernel
theorem dX8_noted_35 : decode cX8_noted 35 = .ok (.invokevirtual 279, 3) := by decide +kernel
theorem dX8_noted_38 : decode cX8_noted 38 = .ok (.iadd, 1) := by decide +kernel
theorem dX8_noted_39 : decode cX8_noted 39 = .ok (.iload_n 1, 1) := by decide +kernel
theorem dX8_noted_40 : decode cX8_noted 40 = .ok (.iastore, 1) := by decide +kernel
theorem dX8_noted_41 : decode cX8_noted 41 = .ok (.aload_n 0, 1) := by decide +kernel
theorem dX8_noted_42 : decode cX8_noted 42 = .ok (.getfield 7, 3) := by decide +kernel
theorem dX8_noted_45 : decode cX8_noted 45 = .ok (.bipush 112, 2) := by decide +kernel
theorem dX8_noted_47 : decode cX8_noted 47 = .ok (.dup2, 1) := by decide +kernel
theorem dX8_noted_48 : decode cX8_noted 48 = .ok (.iaload, 1) := by decide +kernel
theorem dX8_noted_49 : decode cX8_noted 49 = .ok (.iconst 1, 1) := by decide +kernel
theorem dX8_noted_50 : decode cX8_noted 50 = .ok (.iadd, 1) := by decide +kernel
theorem dX8_noted_51 : decode cX8_noted 51 = .ok (.iastore, 1) := by decide +kernel
theorem dX8_noted_52 : decode cX8_noted 52 = .ok (.aload_n 0, 1) := by decide +kernel
theorem dX8_noted_53 : decode cX8_noted 53 = .ok (.invokevirtual 279, 3) := by decide +kernel
theorem dX8_noted_56 : decode cX8_noted 56 = .ok (.ireturn, 1) := by decide +kernel
theorem dX8_forget_0 : decode cX8_forget 0 = .ok (.aload_n 0, 1) := by decide +kernel
theorem dX8_forget_1 : decode cX8_forget 1 = .ok (.invokevirtual 279, 3) := by decide +kernel
theorem dX8_forget_4 : decode cX8_forget 4 = .ok (.istore_n 1, 1) := by decide +kernel
theorem dX8_forget_5 : decode cX8_forget 5 = .ok (.aload_n 0, 1) := by decide +kernel
theorem dX8_forget_6 : decode cX8_forget 6 = .ok (.getfield 7, 3) := by decide +kernel
theorem dX8_forget_9 : decode cX8_forget 9 = .ok (.bipush 112, 2) := by decide +kernel
theorem dX8_forget_11 : decode cX8_forget 11 = .ok (.iconst 0, 1) := by decide +kernel
theorem dX8_forget_12 : decode cX8_forget 12 = .ok (.iastore, 1) := by decide +kernel
theorem dX8_forget_13 : decode cX8_forget 13 = .ok (.iload_n 1, 1) := by decide +kernel
theorem dX8_forget_14 : decode cX8_forget 14 = .ok (.ireturn, 1) := by decide +kernel
theorem dX8_isWrong_0 : decode cX8_isWrong 0 = .ok (.iconst 0, 1) := by decide +kernel
theorem dX8_isWrong_1 : decode cX8_isWrong 1 = .ok (.istore 4, 2) := by decide +kernel
theorem dX8_isWrong_3 : decode cX8_isWrong 3 = .ok (.iconst 0, 1) := by decide +kernel
theorem dX8_isWrong_4 : decode cX8_isWrong 4 = .ok (.istore 5, 2) := by decide +kernel
theorem dX8_isWrong_6 : decode cX8_isWrong 6 = .ok (.iload 5, 2) := by decide +kernel
theorem dX8_isWrong_8 : decode cX8_isWrong 8 = .ok (.aload_n 0, 1) := by decide +kernel
theorem dX8_isWrong_9 : decode cX8_isWrong 9 = .ok (.invokevirtual 279, 3) := by decide +kernel
theorem dX8_isWrong_12 : decode cX8_isWrong 12 = .ok (.if_icmp .ge 76, 3) := by decide +kernel
theorem dX8_isWrong_15 : decode cX8_isWrong 15 = .ok (.aload_n 0, 1) := by decide +kernel
theorem dX8_isWrong_16 : decode cX8_isWrong 16 = .ok (.iload 5, 2) := by decide +kernel
theorem dX8_isWrong_18 : decode cX8_isWrong 18 = .ok (.invokevirtual 184, 3) := by decide +kernel
theorem dX8_isWrong_21 : decode cX8_isWrong 21 = .ok (.iload_n 2, 1) := by decide +kernel
theorem dX8_isWrong_22 : decode cX8_isWrong 22 = .ok (.if_icmp .ne 7, 3) := by decide +kernel
theorem dX8_isWrong_25 : decode cX8_isWrong 25 = .ok (.iconst 1, 1) := by decide +kernel
theorem dX8_isWrong_26 : decode cX8_isWrong 26 = .ok (.goto 4, 3) := by decide +kernel
theorem dX8_isWrong_29 : decode cX8_isWrong 29 = .ok (.iconst 0, 1) := by decide +kernel
theorem dX8_isWrong_30 : decode cX8_isWrong 30 = .ok (.istore 6, 2) := by decide +kernel
theorem dX8_isWrong_32 : decode cX8_isWrong 32 = .ok (.iload 4, 2) := by decide +kernel
theorem dX8_isWrong_34 : decode cX8_isWrong 34 = .ok (.ifCond .ne 8, 3) := by decide +kernel
theorem dX8_isWrong_37 : decode cX8_isWrong 37 = .ok (.iload 6, 2) := by decide +kernel
theorem dX8_isWrong_39 : decode cX8_isWrong 39 = .ok (.ifCond .eq 7, 3) := by decide +kernel
theorem dX8_isWrong_42 : decode cX8_isWrong 42 = .ok (.iconst 1, 1) := by decide +kernel
theorem dX8_isWrong_43 : decode cX8_isWrong 43 = .ok (.goto 4, 3) := by decide +kernel
theorem dX8_isWrong_46 : decode cX8_isWrong 46 = .ok (.iconst 0, 1) := by decide +kernel
theorem dX8_isWrong_47 : decode cX8_isWrong 47 = .ok (.istore 4, 2) := by decide +kernel
theorem dX8_isWrong_49 : decode cX8_isWrong 49 = .ok (.aload_n 0, 1) := by decide +kernel
theorem dX8_isWrong_50 : decode cX8_isWrong 50 = .ok (.iload 5, 2) := by decide +kernel
theorem dX8_isWrong_52 : decode cX8_isWrong 52 = .ok (.iload_n 1, 1) := by decide +kernel
theorem dX8_isWrong_53 : decode cX8_isWrong 53 = .ok (.invokevirtual 220, 3) := by decide +kernel
theorem dX8_isWrong_56 : decode cX8_isWrong 56 = .ok (.iload 6, 2) := by decide +kernel
theorem dX8_isWrong_58 : decode cX8_isWrong 58 = .ok (.ifCond .eq 7, 3) := by decide +kernel
theorem dX8_isWrong_61 : decode cX8_isWrong 61 = .ok (.iload_n 3, 1) := by decide +kernel
theorem dX8_isWrong_62 : decode cX8_isWrong 62 = .ok (.goto 4, 3) := by decide +kernel
theorem dX8_isWrong_65 : decode cX8_isWrong 65 = .ok (.iconst 0, 1) := by decide +kernel
theorem dX8_isWrong_66 : decode cX8_isWrong 66 = .ok (.iadd, 1) := by decide +kernel
theorem dX8_isWrong_67 : decode cX8_isWrong 67 = .ok (.aload_n 0, 1) := by decide +kernel
theorem dX8_isWrong_68 : decode cX8_isWrong 68 = .ok (.getfield 7, 3) := by decide +kernel
theorem dX8_isWrong_71 : decode cX8_isWrong 71 = .ok (.bipush 88, 2) := by decide +kernel
theorem dX8_isWrong_73 : decode cX8_isWrong 73 = .ok (.iload 5, 2) := by decide +kernel
theorem dX8_isWrong_75 : decode cX8_isWrong 75 = .ok (.iadd, 1) := by decide +kernel
theorem dX8_isWrong_76 : decode cX8_isWrong 76 = .ok (.iaload, 1) := by decide +kernel
theorem dX8_isWrong_77 : decode cX8_isWrong 77 = .ok (.if_icmp .eq 5, 3) := by decide +kernel
theorem dX8_isWrong_80 : decode cX8_isWrong 80 = .ok (.iconst 0, 1) := by decide +kernel
theorem dX8_isWrong_81 : decode cX8_isWrong 81 = .ok (.ireturn, 1) := by decide +kernel
theorem dX8_isWrong_82 : decode cX8_isWrong 82 = .ok (.iinc 5 1, 3) := by decide +kernel
theorem dX8_isWrong_85 : decode cX8_isWrong 85 = .ok (.goto (-79), 3) := by decide +kernel
theorem dX8_isWrong_88 : decode cX8_isWrong 88 = .ok (.iload 4, 2) := by decide +kernel
theorem dX8_isWrong_90 : decode cX8_isWrong 90 = .ok (.ireturn, 1) := by decide +kernel
theorem dX8_watch_0 : decode cX8_watch 0 = .ok (.aload_n 0, 1) := by decide +kernel
theorem dX8_watch_1 : decode cX8_watch 1 = .ok (.iload_n 1, 1) := by decide +kernel
theorem dX8_watch_2 : decode cX8_watch 2 = .ok (.invokevirtual 190, 3) := by decide +kernel
theorem dX8_watch_5 : decode cX8_watch 5 = .ok (.ifCond .eq 15, 3) := by decide +kernel
theorem dX8_watch_8 : decode cX8_watch 8 = .ok (.iload_n 2, 1) := by decide +kernel
theorem dX8_watch_9 : decode cX8_watch 9 = .ok (.i2l, 1) := by decide +kernel
theorem dX8_watch_10 : decode cX8_watch 10 = .ok (.lconst 0, 1) := by decide +kernel
theorem dX8_watch_11 : decode cX8_watch 11 = .ok (.ldc2_w 177, 3) := by decide +kernel
theorem dX8_watch_14 : decode cX8_watch 14 = .ok (.invokestatic 79, 3) := by decide +kernel
theorem dX8_watch_17 : decode cX8_watch 17 = .ok (.ifCond .ne 5, 3) := by decide +kernel
theorem dX8_watch_20 : decode cX8_watch 20 = .ok (.iconst (-1), 1) := by decide +kernel
theorem dX8_watch_21 : decode cX8_watch 21 = .ok (.ireturn, 1) := by decide +kernel
theorem dX8_watch_22 : decode cX8_watch 22 = .ok (.aload_n 0, 1) := by decide +kernel
theorem dX8_watch_23 : decode cX8_watch 23 = .ok (.invokevirtual 279, 3) := by decide +kernel
theorem dX8_watch_26 : decode cX8_watch 26 = .ok (.ifCond .ne 6, 3) := by decide +kernel
theorem dX8_watch_29 : decode cX8_watch 29 = .ok (.bipush (-2), 2) := by decide +kernel
theorem dX8_watch_31 : decode cX8_watch 31 = .ok (.ireturn, 1) := by decide +kernel
theorem dX8_watch_32 : decode cX8_watch 32 = .ok (.iconst 0, 1) := by decide +kernel
theorem dX8_watch_33 : decode cX8_watch 33 = .ok (.istore_n 3, 1) := by decide +kernel
theorem dX8_watch_34 : decode cX8_watch 34 = .ok (.bipush (-4), 2) := by decide +kernel
theorem dX8_watch_36 : decode cX8_watch 36 = .ok (.istore 4, 2) := by decide +kernel
theorem dX8_watch_38 : decode cX8_watch 38 = .ok (.iconst 0, 1) := by decide +kernel
theorem dX8_watch_39 : decode cX8_watch 39 = .ok (.istore 5, 2) := by decide +kernel
theorem dX8_watch_41 : decode cX8_watch 41 = .ok (.iconst 0, 1) := by decide +kernel
theorem dX8_watch_42 : decode cX8_watch 42 = .ok (.istore 6, 2) := by decide +kernel
theorem dX8_watch_44 : decode cX8_watch 44 = .ok (.iload 6, 2) := by decide +kernel
theorem dX8_watch_46 : decode cX8_watch 46 = .ok (.aload_n 0, 1) := by decide +kernel
theorem dX8_watch_47 : decode cX8_watch 47 = .ok (.getfield 7, 3) := by decide +kernel
theorem dX8_watch_50 : decode cX8_watch 50 = .ok (.bipush 113, 2) := by decide +kernel
theorem dX8_watch_52 : decode cX8_watch 52 = .ok (.iaload, 1) := by decide +kernel
theorem dX8_watch_53 : decode cX8_watch 53 = .ok (.if_icmp .ge 72, 3) := by decide +kernel
theorem dX8_watch_56 : decode cX8_watch 56 = .ok (.bipush (-20), 2) := by decide +kernel
theorem dX8_watch_58 : decode cX8_watch 58 = .ok (.istore 7, 2) := by decide +kernel
theorem dX8_watch_60 : decode cX8_watch 60 = .ok (.iload 7, 2) := by decide +kernel
theorem dX8_watch_62 : decode cX8_watch 62 = .ok (.bipush 20, 2) := by decide +kernel
theorem dX8_watch_64 : decode cX8_watch 64 = .ok (.if_icmp .gt 55, 3) := by decide +kernel
theorem dX8_watch_67 : decode cX8_watch 67 = .ok (.iload 7, 2) := by decide +kernel
theorem dX8_watch_69 : decode cX8_watch 69 = .ok (.ifCond .eq 44, 3) := by decide +kernel
theorem dX8_watch_72 : decode cX8_watch 72 = .ok (.aload_n 0, 1) := by decide +kernel
theorem dX8_watch_73 : decode cX8_watch 73 = .ok (.iload_n 1, 1) := by decide +kernel
theorem dX8_watch_74 : decode cX8_watch 74 = .ok (.iload 6, 2) := by decide +kernel
theorem dX8_watch_76 : decode cX8_watch 76 = .ok (.iload 7, 2) := by decide +kernel
theorem dX8_watch_78 : decode cX8_watch 78 = .ok (.invokevirtual 282, 3) := by decide +kernel
theorem dX8_watch_81 : decode cX8_watch 81 = .ok (.ifCond .eq 32, 3) := by decide +kernel
theorem dX8_watch_84 : decode cX8_watch 84 = .ok (.iload_n 3, 1) := by decide +kernel
theorem dX8_watch_85 : decode cX8_watch 85 = .ok (.ifCond .ne 8, 3) := by decide +kernel
theorem dX8_watch_88 : decode cX8_watch 88 = .ok (.iload 6, 2) := by decide +kernel
theorem dX8_watch_90 : decode cX8_watch 90 = .ok (.goto 5, 3) := by decide +kernel
theorem dX8_watch_93 : decode cX8_watch 93 = .ok (.iload 4, 2) := by decide +kernel
theorem dX8_watch_95 : decode cX8_watch 95 = .ok (.istore 4, 2) := by decide +kernel
theorem dX8_watch_97 : decode cX8_watch 97 = .ok (.iload_n 3, 1) := by decide +kernel
theorem dX8_watch_98 : decode cX8_watch 98 = .ok (.ifCond .ne 8, 3) := by decide +kernel
theorem dX8_watch_101 : decode cX8_watch 101 = .ok (.iload 7, 2) := by decide +kernel
theorem dX8_watch_103 : decode cX8_watch 103 = .ok (.goto 5, 3) := by decide +kernel
theorem dX8_watch_106 : decode cX8_watch 106 = .ok (.iload 5, 2) := by decide +kernel
theorem dX8_watch_108 : decode cX8_watch 108 = .ok (.istore 5, 2) := by decide +kernel
theorem dX8_watch_110 : decode cX8_watch 110 = .ok (.iinc 3 1, 3) := by decide +kernel
theorem dX8_watch_113 : decode cX8_watch 113 = .ok (.iinc 7 1, 3) := by decide +kernel
theorem dX8_watch_116 : decode cX8_watch 116 = .ok (.goto (-56), 3) := by decide +kernel
theorem dX8_watch_119 : decode cX8_watch 119 = .ok (.iinc 6 1, 3) := by decide +kernel
theorem dX8_watch_122 : decode cX8_watch 122 = .ok (.goto (-78), 3) := by decide +kernel
theorem dX8_watch_125 : decode cX8_watch 125 = .ok (.iload_n 2, 1) := by decide +kernel
theorem dX8_watch_126 : decode cX8_watch 126 = .ok (.ifCond .ne 7, 3) := by decide +kernel
theorem dX8_watch_129 : decode cX8_watch 129 = .ok (.iload_n 3, 1) := by decide +kernel
theorem dX8_watch_130 : decode cX8_watch 130 = .ok (.goto 27, 3) := by decide +kernel
theorem dX8_watch_133 : decode cX8_watch 133 = .ok (.iload_n 3, 1) := by decide +kernel
theorem dX8_watch_134 : decode cX8_watch 134 = .ok (.ifCond .ne 8, 3) := by decide +kernel
theorem dX8_watch_137 : decode cX8_watch 137 = .ok (.bipush (-4), 2) := by decide +kernel
theorem dX8_watch_139 : decode cX8_watch 139 = .ok (.goto 18, 3) := by decide +kernel
theorem dX8_watch_142 : decode cX8_watch 142 = .ok (.iload_n 2, 1) := by decide +kernel
theorem dX8_watch_143 : decode cX8_watch 143 = .ok (.iconst 1, 1) := by decide +kernel
theorem dX8_watch_144 : decode cX8_watch 144 = .ok (.if_icmp .ne 8, 3) := by decide +kernel
theorem dX8_watch_147 : decode cX8_watch 147 = .ok (.iload 4, 2) := by decide +kernel
theorem dX8_watch_149 : decode cX8_watch 149 = .ok (.goto 8, 3) := by decide +kernel
theorem dX8_watch_152 : decode cX8_watch 152 = .ok (.bipush 100, 2) := by decide +kernel
theorem dX8_watch_154 : decode cX8_watch 154 = .ok (.iload 5, 2) := by decide +kernel
theorem dX8_watch_156 : decode cX8_watch 156 = .ok (.iadd, 1) := by decide +kernel
theorem dX8_watch_157 : decode cX8_watch 157 = .ok (.ireturn, 1) := by decide +kernel
theorem dX8_lost_0 : decode cX8_lost 0 = .ok (.aload_n 0, 1) := by decide +kernel
theorem dX8_lost_1 : decode cX8_lost 1 = .ok (.invokevirtual 168, 3) := by decide +kernel
theorem dX8_lost_4 : decode cX8_lost 4 = .ok (.iload_n 1, 1) := by decide +kernel
theorem dX8_lost_5 : decode cX8_lost 5 = .ok (.i2l, 1) := by decide +kernel
theorem dX8_lost_6 : decode cX8_lost 6 = .ok (.lconst 0, 1) := by decide +kernel
theorem dX8_lost_7 : decode cX8_lost 7 = .ok (.lconst 1, 1) := by decide +kernel
theorem dX8_lost_8 : decode cX8_lost 8 = .ok (.invokestatic 79, 3) := by decide +kernel
theorem dX8_lost_11 : decode cX8_lost 11 = .ok (.ifCond .ne 5, 3) := by decide +kernel
theorem dX8_lost_14 : decode cX8_lost 14 = .ok (.iconst (-1), 1) := by decide +kernel
theorem dX8_lost_15 : decode cX8_lost 15 = .ok (.ireturn, 1) := by decide +kernel
theorem dX8_lost_16 : decode cX8_lost 16 = .ok (.aload_n 0, 1) := by decide +kernel
theorem dX8_lost_17 : decode cX8_lost 17 = .ok (.invokevirtual 279, 3) := by decide +kernel
theorem dX8_lost_20 : decode cX8_lost 20 = .ok (.ifCond .ne 6, 3) := by decide +kernel
theorem dX8_lost_23 : decode cX8_lost 23 = .ok (.bipush (-2), 2) := by decide +kernel
theorem dX8_lost_25 : decode cX8_lost 25 = .ok (.ireturn, 1) := by decide +kernel
theorem dX8_lost_26 : decode cX8_lost 26 = .ok (.iconst 0, 1) := by decide +kernel
theorem dX8_lost_27 : decode cX8_lost 27 = .ok (.istore_n 2, 1) := by decide +kernel
theorem dX8_lost_28 : decode cX8_lost 28 = .ok (.bipush (-4), 2) := by decide +kernel
theorem dX8_lost_30 : decode cX8_lost 30 = .ok (.istore_n 3, 1) := by decide +kernel
theorem dX8_lost_31 : decode cX8_lost 31 = .ok (.iconst 0, 1) := by decide +kernel
theorem dX8_lost_32 : decode cX8_lost 32 = .ok (.istore 4, 2) := by decide +kernel
theorem dX8_lost_34 : decode cX8_lost 34 = .ok (.iload 4, 2) := by decide +kernel
theorem dX8_lost_36 : decode cX8_lost 36 = .ok (.bipush 81, 2) := by decide +kernel
theorem dX8_lost_38 : decode cX8_lost 38 = .ok (.if_icmp .ge 113, 3) := by decide +kernel
theorem dX8_lost_41 : decode cX8_lost 41 = .ok (.aload_n 0, 1) := by decide +kernel
theorem dX8_lost_42 : decode cX8_lost 42 = .ok (.iload 4, 2) := by decide +kernel
theorem dX8_lost_44 : decode cX8_lost 44 = .ok (.invokevirtual 190, 3) := by decide +kernel
theorem dX8_lost_47 : decode cX8_lost 47 = .ok (.istore 5, 2) := by decide +kernel
theorem dX8_lost_49 : decode cX8_lost 49 = .ok (.iconst 1, 1) := by decide +kernel
theorem dX8_lost_50 : decode cX8_lost 50 = .ok (.istore 6, 2) := by decide +kernel
theorem dX8_lost_52 : decode cX8_lost 52 = .ok (.iload 6, 2) := by decide +kernel
theorem dX8_lost_54 : decode cX8_lost 54 = .ok (.aload_n 0, 1) := by decide +kernel
theorem dX8_lost_55 : decode cX8_lost 55 = .ok (.invokevirtual 279, 3) := by decide +kernel
theorem dX8_lost_58 : decode cX8_lost 58 = .ok (.if_icmp .ge 58, 3) := by decide +kernel
theorem dX8_lost_61 : decode cX8_lost 61 = .ok (.iload 5, 2) := by decide +kernel
theorem dX8_lost_63 : decode cX8_lost 63 = .ok (.ifCond .eq 53, 3) := by decide +kernel
theorem dX8_lost_66 : decode cX8_lost 66 = .ok (.aload_n 0, 1) := by decide +kernel
theorem dX8_lost_67 : decode cX8_lost 67 = .ok (.getfield 7, 3) := by decide +kernel
theorem dX8_lost_70 : decode cX8_lost 70 = .ok (.bipush 88, 2) := by decide +kernel
theorem dX8_lost_72 : decode cX8_lost 72 = .ok (.iload 6, 2) := by decide +kernel
theorem dX8_lost_74 : decode cX8_lost 74 = .ok (.iadd, 1) := by decide +kernel
theorem dX8_lost_75 : decode cX8_lost 75 = .ok (.iaload, 1) := by decide +kernel
theorem dX8_lost_76 : decode cX8_lost 76 = .ok (.aload_n 0, 1) := by decide +kernel
theorem dX8_lost_77 : decode cX8_lost 77 = .ok (.iload 6, 2) := by decide +kernel
theorem dX8_lost_79 : decode cX8_lost 79 = .ok (.iload 4, 2) := by decide +kernel
theorem dX8_lost_81 : decode cX8_lost 81 = .ok (.invokevirtual 220, 3) := by decide +kernel
theorem dX8_lost_84 : decode cX8_lost 84 = .ok (.isub, 1) := by decide +kernel
theorem dX8_lost_85 : decode cX8_lost 85 = .ok (.aload_n 0, 1) := by decide +kernel
theorem dX8_lost_86 : decode cX8_lost 86 = .ok (.getfield 7, 3) := by decide +kernel
theorem dX8_lost_89 : decode cX8_lost 89 = .ok (.bipush 88, 2) := by decide +kernel
theorem dX8_lost_91 : decode cX8_lost 91 = .ok (.iaload, 1) := by decide +kernel
theorem dX8_lost_92 : decode cX8_lost 92 = .ok (.aload_n 0, 1) := by decide +kernel
theorem dX8_lost_93 : decode cX8_lost 93 = .ok (.iconst 0, 1) := by decide +kernel
theorem dX8_lost_94 : decode cX8_lost 94 = .ok (.iload 4, 2) := by decide +kernel
theorem dX8_lost_96 : decode cX8_lost 96 = .ok (.invokevirtual 220, 3) := by decide +kernel
theorem dX8_lost_99 : decode cX8_lost 99 = .ok (.isub, 1) := by decide +kernel
theorem dX8_lost_100 : decode cX8_lost 100 = .ok (.if_icmp .ne 7, 3) := by decide +kernel
theorem dX8_lost_103 : decode cX8_lost 103 = .ok (.iconst 1, 1) := by decide +kernel
theorem dX8_lost_104 : decode cX8_lost 104 = .ok (.goto 4, 3) := by decide +kernel
theorem dX8_lost_107 : decode cX8_lost 107 = .ok (.iconst 0, 1) := by decide +kernel
theorem dX8_lost_108 : decode cX8_lost 108 = .ok (.istore 5, 2) := by decide +kernel
theorem dX8_lost_110 : decode cX8_lost 110 = .ok (.iinc 6 1, 3) := by decide +kernel
theorem dX8_lost_113 : decode cX8_lost 113 = .ok (.goto (-61), 3) := by decide +kernel
theorem dX8_lost_116 : decode cX8_lost 116 = .ok (.iload 5, 2) := by decide +kernel
theorem dX8_lost_118 : decode cX8_lost 118 = .ok (.ifCond .eq 12, 3) := by decide +kernel
theorem dX8_lost_121 : decode cX8_lost 121 = .ok (.iload_n 2, 1) := by decide +kernel
theorem dX8_lost_122 : decode cX8_lost 122 = .ok (.ifCond .ne 8, 3) := by decide +kernel
theorem dX8_lost_125 : decode cX8_lost 125 = .ok (.iload 4, 2) := by decide +kernel
theorem dX8_lost_127 : decode cX8_lost 127 = .ok (.goto 4, 3) := by decide +kernel
theorem dX8_lost_130 : decode cX8_lost 130 = .ok (.iload_n 3, 1) := by decide +kernel
theorem dX8_lost_131 : decode cX8_lost 131 = .ok (.istore_n 3, 1) := by decide +kernel
theorem dX8_lost_132 : decode cX8_lost 132 = .ok (.iload_n 2, 1) := by decide +kernel
theorem dX8_lost_133 : decode cX8_lost 133 = .ok (.iload 5, 2) := by decide +kernel
theorem dX8_lost_135 : decode cX8_lost 135 = .ok (.ifCond .eq 7, 3) := by decide +kernel
theorem dX8_lost_138 : decode cX8_lost 138 = .ok (.iconst 1, 1) := by decide +kernel
theorem dX8_lost_139 : decode cX8_lost 139 = .ok (.goto 4, 3) := by decide +kernel
theorem dX8_lost_142 : decode cX8_lost 142 = .ok (.iconst 0, 1) := by decide +kernel
theorem dX8_lost_143 : decode cX8_lost 143 = .ok (.iadd, 1) := by decide +kernel
theorem dX8_lost_144 : decode cX8_lost 144 = .ok (.istore_n 2, 1) := by decide +kernel
theorem dX8_lost_145 : decode cX8_lost 145 = .ok (.iinc 4 1, 3) := by decide +kernel
theorem dX8_lost_148 : decode cX8_lost 148 = .ok (.goto (-114), 3) := by decide +kernel
theorem dX8_lost_151 : decode cX8_lost 151 = .ok (.iload_n 1, 1) := by decide +kernel
theorem dX8_lost_152 : decode cX8_lost 152 = .ok (.ifCond .ne 7, 3) := by decide +kernel
theorem dX8_lost_155 : decode cX8_lost 155 = .ok (.iload_n 2, 1) := by decide +kernel
theorem dX8_lost_156 : decode cX8_lost 156 = .ok (.goto 4, 3) := by decide +kernel
theorem dX8_lost_159 : decode cX8_lost 159 = .ok (.iload_n 3, 1) := by decide +kernel
theorem dX8_lost_160 : decode cX8_lost 160 = .ok (.ireturn, 1) := by decide +kernel
theorem dX8_fits_0 : decode cX8_fits 0 = .ok (.aload_n 0, 1) := by decide +kernel
theorem dX8_fits_1 : decode cX8_fits 1 = .ok (.iload_n 1, 1) := by decide +kernel
theorem dX8_fits_2 : decode cX8_fits 2 = .ok (.invokevirtual 190, 3) := by decide +kernel
theorem dX8_fits_5 : decode cX8_fits 5 = .ok (.ifCond .ne 5, 3) := by decide +kernel
theorem dX8_fits_8 : decode cX8_fits 8 = .ok (.iconst (-1), 1) := by decide +kernel
theorem dX8_fits_9 : decode cX8_fits 9 = .ok (.ireturn, 1) := by decide +kernel
theorem dX8_fits_10 : decode cX8_fits 10 = .ok (.aload_n 0, 1) := by decide +kernel
theorem dX8_fits_11 : decode cX8_fits 11 = .ok (.invokevirtual 279, 3) := by decide +kernel
theorem dX8_fits_14 : decode cX8_fits 14 = .ok (.ifCond .ne 6, 3) := by decide +kernel
theorem dX8_fits_17 : decode cX8_fits 17 = .ok (.bipush (-2), 2) := by decide +kernel
theorem dX8_fits_19 : decode cX8_fits 19 = .ok (.ireturn, 1) := by decide +kernel
theorem dX8_fits_20 : decode cX8_fits 20 = .ok (.iconst 0, 1) := by decide +kernel
theorem dX8_fits_21 : decode cX8_fits 21 = .ok (.istore_n 2, 1) := by decide +kernel
theorem dX8_fits_22 : decode cX8_fits 22 = .ok (.iconst 0, 1) := by decide +kernel
theorem dX8_fits_23 : decode cX8_fits 23 = .ok (.istore_n 3, 1) := by decide +kernel
theorem dX8_fits_24 : decode cX8_fits 24 = .ok (.iload_n 3, 1) := by decide +kernel
theorem dX8_fits_25 : decode cX8_fits 25 = .ok (.aload_n 0, 1) := by decide +kernel
theorem dX8_fits_26 : decode cX8_fits 26 = .ok (.invokevirtual 279, 3) := by decide +kernel
theorem dX8_fits_29 : decode cX8_fits 29 = .ok (.if_icmp .ge 35, 3) := by decide +kernel
theorem dX8_fits_32 : decode cX8_fits 32 = .ok (.iload_n 2, 1) := by decide +kernel
theorem dX8_fits_33 : decode cX8_fits 33 = .ok (.aload_n 0, 1) := by decide +kernel
theorem dX8_fits_34 : decode cX8_fits 34 = .ok (.getfield 7, 3) := by decide +kernel
theorem dX8_fits_37 : decode cX8_fits 37 = .ok (.bipush 88, 2) := by decide +kernel
theorem dX8_fits_39 : decode cX8_fits 39 = .ok (.iload_n 3, 1) := by decide +kernel
theorem dX8_fits_40 : decode cX8_fits 40 = .ok (.iadd, 1) := by decide +kernel
theorem dX8_fits_41 : decode cX8_fits 41 = .ok (.iaload, 1) := by decide +kernel
theorem dX8_fits_42 : decode cX8_fits 42 = .ok (.aload_n 0, 1) := by decide +kernel
theorem dX8_fits_43 : decode cX8_fits 43 = .ok (.iload_n 3, 1) := by decide +kernel
theorem dX8_fits_44 : decode cX8_fits 44 = .ok (.iload_n 1, 1) := by decide +kernel
theorem dX8_fits_45 : decode cX8_fits 45 = .ok (.invokevirtual 220, 3) := by decide +kernel
theorem dX8_fits_48 : decode cX8_fits 48 = .ok (.if_icmp .ne 7, 3) := by decide +kernel
theorem dX8_fits_51 : decode cX8_fits 51 = .ok (.iconst 1, 1) := by decide +kernel
theorem dX8_fits_52 : decode cX8_fits 52 = .ok (.goto 4, 3) := by decide +kernel
theorem dX8_fits_55 : decode cX8_fits 55 = .ok (.iconst 0, 1) := by decide +kernel
theorem dX8_fits_56 : decode cX8_fits 56 = .ok (.iadd, 1) := by decide +kernel
theorem dX8_fits_57 : decode cX8_fits 57 = .ok (.istore_n 2, 1) := by decide +kernel
theorem dX8_fits_58 : decode cX8_fits 58 = .ok (.iinc 3 1, 3) := by decide +kernel
theorem dX8_fits_61 : decode cX8_fits 61 = .ok (.goto (-37), 3) := by decide +kernel
theorem dX8_fits_64 : decode cX8_fits 64 = .ok (.iload_n 2, 1) := by decide +kernel
theorem dX8_fits_65 : decode cX8_fits 65 = .ok (.ireturn, 1) := by decide +kernel
theorem dX8_copies_0 : decode cX8_copies 0 = .ok (.iconst 0, 1) := by decide +kernel
theorem dX8_copies_1 : decode cX8_copies 1 = .ok (.istore_n 3, 1) := by decide +kernel
theorem dX8_copies_2 : decode cX8_copies 2 = .ok (.iload_n 3, 1) := by decide +kernel
theorem dX8_copies_3 : decode cX8_copies 3 = .ok (.bipush 120, 2) := by decide +kernel
theorem dX8_copies_5 : decode cX8_copies 5 = .ok (.if_icmp .ge 25, 3) := by decide +kernel
theorem dX8_copies_8 : decode cX8_copies 8 = .ok (.aload_n 0, 1) := by decide +kernel
theorem dX8_copies_9 : decode cX8_copies 9 = .ok (.getfield 7, 3) := by decide +kernel
theorem dX8_copies_12 : decode cX8_copies 12 = .ok (.iload_n 2, 1) := by decide +kernel
theorem dX8_copies_13 : decode cX8_copies 13 = .ok (.iload_n 3, 1) := by decide +kernel
theorem dX8_copies_14 : decode cX8_copies 14 = .ok (.iadd, 1) := by decide +kernel
theorem dX8_copies_15 : decode cX8_copies 15 = .ok (.aload_n 0, 1) := by decide +kernel
theorem dX8_copies_16 : decode cX8_copies 16 = .ok (.getfield 7, 3) := by decide +kernel
theorem dX8_copies_19 : decode cX8_copies 19 = .ok (.iload_n 1, 1) := by decide +kernel
theorem dX8_copies_20 : decode cX8_copies 20 = .ok (.iload_n 3, 1) := by decide +kernel
theorem dX8_copies_21 : decode cX8_copies 21 = .ok (.iadd, 1) := by decide +kernel
theorem dX8_copies_22 : decode cX8_copies 22 = .ok (.iaload, 1) := by decide +kernel
theorem dX8_copies_23 : decode cX8_copies 23 = .ok (.iastore, 1) := by decide +kernel
theorem dX8_copies_24 : decode cX8_copies 24 = .ok (.iinc 3 1, 3) := by decide +kernel
theorem dX8_copies_27 : decode cX8_copies 27 = .ok (.goto (-25), 3) := by decide +kernel
theorem dX8_copies_30 : decode cX8_copies 30 = .ok (.return_, 1) := by decide +kernel
theorem dX8_keep_0 : decode cX8_keep 0 = .ok (.aload_n 0, 1) := by decide +kernel
theorem dX8_keep_1 : decode cX8_keep 1 = .ok (.invokevirtual 168, 3) := by decide +kernel
theorem dX8_keep_4 : decode cX8_keep 4 = .ok (.iload_n 1, 1) := by decide +kernel
theorem dX8_keep_5 : decode cX8_keep 5 = .ok (.i2l, 1) := by decide +kernel
theorem dX8_keep_6 : decode cX8_keep 6 = .ok (.lconst 0, 1) := by decide +kernel
theorem dX8_keep_7 : decode cX8_keep 7 = .ok (.lconst 1, 1) := by decide +kernel
theorem dX8_keep_8 : decode cX8_keep 8 = .ok (.invokestatic 79, 3) := by decide +kernel
theorem dX8_keep_11 : decode cX8_keep 11 = .ok (.ifCond .ne 5, 3) := by decide +kernel
theorem dX8_keep_14 : decode cX8_keep 14 = .ok (.iconst (-1), 1) := by decide +kernel
theorem dX8_keep_15 : decode cX8_keep 15 = .ok (.ireturn, 1) := by decide +kernel
theorem dX8_keep_16 : decode cX8_keep 16 = .ok (.aload_n 0, 1) := by decide +kernel
theorem dX8_keep_17 : decode cX8_keep 17 = .ok (.iconst 0, 1) := by decide +kernel
theorem dX8_keep_18 : decode cX8_keep 18 = .ok (.bipush 120, 2) := by decide +kernel
theorem dX8_keep_20 : decode cX8_keep 20 = .ok (.iload_n 1, 1) := by decide +kernel
theorem dX8_keep_21 : decode cX8_keep 21 = .ok (.iconst 1, 1) := by decide +kernel
theorem dX8_keep_22 : decode cX8_keep 22 = .ok (.iadd, 1) := by decide +kernel
theorem dX8_keep_23 : decode cX8_keep 23 = .ok (.imul, 1) := by decide +kernel
theorem dX8_keep_24 : decode cX8_keep 24 = .ok (.invokevirtual 285, 3) := by decide +kernel
theorem dX8_keep_27 : decode cX8_keep 27 = .ok (.aload_n 0, 1) := by decide +kernel
theorem dX8_keep_28 : decode cX8_keep 28 = .ok (.getfield 58, 3) := by decide +kernel
theorem dX8_keep_31 : decode cX8_keep 31 = .ok (.iload_n 1, 1) := by decide +kernel
theorem dX8_keep_32 : decode cX8_keep 32 = .ok (.baload, 1) := by decide +kernel
theorem dX8_keep_33 : decode cX8_keep 33 = .ok (.ifCond .eq 7, 3) := by decide +kernel
theorem dX8_keep_36 : decode cX8_keep 36 = .ok (.iconst 1, 1) := by decide +kernel
theorem dX8_keep_37 : decode cX8_keep 37 = .ok (.goto 4, 3) := by decide +kernel
theorem dX8_keep_40 : decode cX8_keep 40 = .ok (.iconst 0, 1) := by decide +kernel
theorem dX8_keep_41 : decode cX8_keep 41 = .ok (.istore_n 2, 1) := by decide +kernel
theorem dX8_keep_42 : decode cX8_keep 42 = .ok (.aload_n 0, 1) := by decide +kernel
theorem dX8_keep_43 : decode cX8_keep 43 = .ok (.getfield 58, 3) := by decide +kernel
theorem dX8_keep_46 : decode cX8_keep 46 = .ok (.iload_n 1, 1) := by decide +kernel
theorem dX8_keep_47 : decode cX8_keep 47 = .ok (.iconst 1, 1) := by decide +kernel
theorem dX8_keep_48 : decode cX8_keep 48 = .ok (.bastore, 1) := by decide +kernel
theorem dX8_keep_49 : decode cX8_keep 49 = .ok (.iload_n 2, 1) := by decide +kernel
theorem dX8_keep_50 : decode cX8_keep 50 = .ok (.ireturn, 1) := by decide +kernel
theorem dX8_back_0 : decode cX8_back 0 = .ok (.iload_n 1, 1) := by decide +kernel
theorem dX8_back_1 : decode cX8_back 1 = .ok (.i2l, 1) := by decide +kernel
theorem dX8_back_2 : decode cX8_back 2 = .ok (.lconst 0, 1) := by decide +kernel
theorem dX8_back_3 : decode cX8_back 3 = .ok (.lconst 1, 1) := by decide +kernel
theorem dX8_back_4 : decode cX8_back 4 = .ok (.invokestatic 79, 3) := by decide +kernel
theorem dX8_back_7 : decode cX8_back 7 = .ok (.ifCond .ne 5, 3) := by decide +kernel
theorem dX8_back_10 : decode cX8_back 10 = .ok (.iconst (-1), 1) := by decide +kernel
theorem dX8_back_11 : decode cX8_back 11 = .ok (.ireturn, 1) := by decide +kernel
theorem dX8_back_12 : decode cX8_back 12 = .ok (.aload_n 0, 1) := by decide +kernel
theorem dX8_back_13 : decode cX8_back 13 = .ok (.getfield 58, 3) := by decide +kernel
theorem dX8_back_16 : decode cX8_back 16 = .ok (.iload_n 1, 1) := by decide +kernel
theorem dX8_back_17 : decode cX8_back 17 = .ok (.baload, 1) := by decide +kernel
theorem dX8_back_18 : decode cX8_back 18 = .ok (.ifCond .ne 6, 3) := by decide +kernel
theorem dX8_back_21 : decode cX8_back 21 = .ok (.bipush (-2), 2) := by decide +kernel
theorem dX8_back_23 : decode cX8_back 23 = .ok (.ireturn, 1) := by decide +kernel
theorem dX8_back_24 : decode cX8_back 24 = .ok (.aload_n 0, 1) := by decide +kernel
theorem dX8_back_25 : decode cX8_back 25 = .ok (.bipush 120, 2) := by decide +kernel
theorem dX8_back_27 : decode cX8_back 27 = .ok (.iload_n 1, 1) := by decide +kernel
theorem dX8_back_28 : decode cX8_back 28 = .ok (.iconst 1, 1) := by decide +kernel
theorem dX8_back_29 : decode cX8_back 29 = .ok (.iadd, 1) := by decide +kernel
theorem dX8_back_30 : decode cX8_back 30 = .ok (.imul, 1) := by decide +kernel
theorem dX8_back_31 : decode cX8_back 31 = .ok (.iconst 0, 1) := by decide +kernel
theorem dX8_back_32 : decode cX8_back 32 = .ok (.invokevirtual 285, 3) := by decide +kernel
theorem dX8_back_35 : decode cX8_back 35 = .ok (.aload_n 0, 1) := by decide +kernel
theorem dX8_back_36 : decode cX8_back 36 = .ok (.invokevirtual 181, 3) := by decide +kernel
theorem dX8_back_39 : decode cX8_back 39 = .ok (.ireturn, 1) := by decide +kernel
theorem dX8_sheet_0 : decode cX8_sheet 0 = .ok (.iload_n 1, 1) := by decide +kernel
theorem dX8_sheet_1 : decode cX8_sheet 1 = .ok (.i2l, 1) := by decide +kernel
theorem dX8_sheet_2 : decode cX8_sheet 2 = .ok (.lconst 0, 1) := by decide +kernel
theorem dX8_sheet_3 : decode cX8_sheet 3 = .ok (.ldc2_w 171, 3) := by decide +kernel
theorem dX8_sheet_6 : decode cX8_sheet 6 = .ok (.invokestatic 79, 3) := by decide +kernel
theorem dX8_sheet_9 : decode cX8_sheet 9 = .ok (.ifCond .eq 21, 3) := by decide +kernel
theorem dX8_sheet_12 : decode cX8_sheet 12 = .ok (.iload_n 2, 1) := by decide +kernel
theorem dX8_sheet_13 : decode cX8_sheet 13 = .ok (.i2l, 1) := by decide +kernel
theorem dX8_sheet_14 : decode cX8_sheet 14 = .ok (.lconst 0, 1) := by decide +kernel
theorem dX8_sheet_15 : decode cX8_sheet 15 = .ok (.ldc2_w 177, 3) := by decide +kernel
theorem dX8_sheet_18 : decode cX8_sheet 18 = .ok (.invokestatic 79, 3) := by decide +kernel
theorem dX8_sheet_21 : decode cX8_sheet 21 = .ok (.ifCond .eq 9, 3) := by decide +kernel
theorem dX8_sheet_24 : decode cX8_sheet 24 = .ok (.iload_n 3, 1) := by decide +kernel
theorem dX8_sheet_25 : decode cX8_sheet 25 = .ok (.bipush 40, 2) := by decide +kernel
theorem dX8_sheet_27 : decode cX8_sheet 27 = .ok (.if_icmp .le 5, 3) := by decide +kernel
theorem dX8_sheet_30 : decode cX8_sheet 30 = .ok (.iconst (-1), 1) := by decide +kernel
theorem dX8_sheet_31 : decode cX8_sheet 31 = .ok (.ireturn, 1) := by decide +kernel
theorem dX8_sheet_32 : decode cX8_sheet 32 = .ok (.iload_n 3, 1) := by decide +kernel
theorem dX8_sheet_33 : decode cX8_sheet 33 = .ok (.ifCond .ge 6, 3) := by decide +kernel
theorem dX8_sheet_36 : decode cX8_sheet 36 = .ok (.bipush (-14), 2) := by decide +kernel
theorem dX8_sheet_38 : decode cX8_sheet 38 = .ok (.ireturn, 1) := by decide +kernel
theorem dX8_sheet_39 : decode cX8_sheet 39 = .ok (.aload_n 0, 1) := by decide +kernel
theorem dX8_sheet_40 : decode cX8_sheet 40 = .ok (.getfield 62, 3) := by decide +kernel
theorem dX8_sheet_43 : decode cX8_sheet 43 = .ok (.iload_n 1, 1) := by decide +kernel
theorem dX8_sheet_44 : decode cX8_sheet 44 = .ok (.iload_n 2, 1) := by decide +kernel
theorem dX8_sheet_45 : decode cX8_sheet 45 = .ok (.iastore, 1) := by decide +kernel
theorem dX8_sheet_46 : decode cX8_sheet 46 = .ok (.aload_n 0, 1) := by decide +kernel
theorem dX8_sheet_47 : decode cX8_sheet 47 = .ok (.getfield 65, 3) := by decide +kernel
theorem dX8_sheet_50 : decode cX8_sheet 50 = .ok (.iload_n 1, 1) := by decide +kernel
theorem dX8_sheet_51 : decode cX8_sheet 51 = .ok (.iload_n 3, 1) := by decide +kernel
theorem dX8_sheet_52 : decode cX8_sheet 52 = .ok (.iastore, 1) := by decide +kernel
theorem dX8_sheet_53 : decode cX8_sheet 53 = .ok (.iconst 0, 1) := by decide +kernel
theorem dX8_sheet_54 : decode cX8_sheet 54 = .ok (.istore 4, 2) := by decide +kernel
theorem dX8_sheet_56 : decode cX8_sheet 56 = .ok (.iload 4, 2) := by decide +kernel
theorem dX8_sheet_58 : decode cX8_sheet 58 = .ok (.bipush 40, 2) := by decide +kernel
theorem dX8_sheet_60 : decode cX8_sheet 60 = .ok (.if_icmp .ge 22, 3) := by decide +kernel
theorem dX8_sheet_63 : decode cX8_sheet 63 = .ok (.aload_n 0, 1) := by decide +kernel
theorem dX8_sheet_64 : decode cX8_sheet 64 = .ok (.getfield 68, 3) := by decide +kernel
theorem dX8_sheet_67 : decode cX8_sheet 67 = .ok (.bipush 40, 2) := by decide +kernel
theorem dX8_sheet_69 : decode cX8_sheet 69 = .ok (.iload_n 1, 1) := by decide +kernel
theorem dX8_sheet_70 : decode cX8_sheet 70 = .ok (.imul, 1) := by decide +kernel
theorem dX8_sheet_71 : decode cX8_sheet 71 = .ok (.iload 4, 2) := by decide +kernel
theorem dX8_sheet_73 : decode cX8_sheet 73 = .ok (.iadd, 1) := by decide +kernel
theorem dX8_sheet_74 : decode cX8_sheet 74 = .ok (.iconst 0, 1) := by decide +kernel
theorem dX8_sheet_75 : decode cX8_sheet 75 = .ok (.iastore, 1) := by decide +kernel
theorem dX8_sheet_76 : decode cX8_sheet 76 = .ok (.iinc 4 1, 3) := by decide +kernel
theorem dX8_sheet_79 : decode cX8_sheet 79 = .ok (.goto (-23), 3) := by decide +kernel
theorem dX8_sheet_82 : decode cX8_sheet 82 = .ok (.iconst 1, 1) := by decide +kernel
theorem dX8_sheet_83 : decode cX8_sheet 83 = .ok (.ireturn, 1) := by decide +kernel
theorem dX8_lay_0 : decode cX8_lay 0 = .ok (.iload_n 1, 1) := by decide +kernel
theorem dX8_lay_1 : decode cX8_lay 1 = .ok (.i2l, 1) := by decide +kernel
theorem dX8_lay_2 : decode cX8_lay 2 = .ok (.lconst 0, 1) := by decide +kernel
theorem dX8_lay_3 : decode cX8_lay 3 = .ok (.ldc2_w 171, 3) := by decide +kernel
theorem dX8_lay_6 : decode cX8_lay 6 = .ok (.invokestatic 79, 3) := by decide +kernel
theorem dX8_lay_9 : decode cX8_lay 9 = .ok (.ifCond .ne 5, 3) := by decide +kernel
theorem dX8_lay_12 : decode cX8_lay 12 = .ok (.iconst (-1), 1) := by decide +kernel
theorem dX8_lay_13 : decode cX8_lay 13 = .ok (.ireturn, 1) := by decide +kernel
theorem dX8_lay_14 : decode cX8_lay 14 = .ok (.aload_n 0, 1) := by decide +kernel
theorem dX8_lay_15 : decode cX8_lay 15 = .ok (.getfield 62, 3) := by decide +kernel
theorem dX8_lay_18 : decode cX8_lay 18 = .ok (.iload_n 1, 1) := by decide +kernel
theorem dX8_lay_19 : decode cX8_lay 19 = .ok (.iaload, 1) := by decide +kernel
theorem dX8_lay_20 : decode cX8_lay 20 = .ok (.bipush (-4), 2) := by decide +kernel
theorem dX8_lay_22 : decode cX8_lay 22 = .ok (.if_icmp .ne 6, 3) := by decide +kernel
theorem dX8_lay_25 : decode cX8_lay 25 = .ok (.bipush (-11), 2) := by decide +kernel
theorem dX8_lay_27 : decode cX8_lay 27 = .ok (.ireturn, 1) := by decide +kernel
theorem dX8_lay_28 : decode cX8_lay 28 = .ok (.iload_n 2, 1) := by decide +kernel
theorem dX8_lay_29 : decode cX8_lay 29 = .ok (.i2l, 1) := by decide +kernel
theorem dX8_lay_30 : decode cX8_lay 30 = .ok (.lconst 0, 1) := by decide +kernel
theorem dX8_lay_31 : decode cX8_lay 31 = .ok (.aload_n 0, 1) := by decide +kernel
theorem dX8_lay_32 : decode cX8_lay 32 = .ok (.getfield 65, 3) := by decide +kernel
theorem dX8_lay_35 : decode cX8_lay 35 = .ok (.iload_n 1, 1) := by decide +kernel
theorem dX8_lay_36 : decode cX8_lay 36 = .ok (.iaload, 1) := by decide +kernel
theorem dX8_lay_37 : decode cX8_lay 37 = .ok (.iconst 1, 1) := by decide +kernel
theorem dX8_lay_38 : decode cX8_lay 38 = .ok (.isub, 1) := by decide +kernel
theorem dX8_lay_39 : decode cX8_lay 39 = .ok (.i2l, 1) := by decide +kernel
theorem dX8_lay_40 : decode cX8_lay 40 = .ok (.invokestatic 79, 3) := by decide +kernel
theorem dX8_lay_43 : decode cX8_lay 43 = .ok (.ifCond .ne 6, 3) := by decide +kernel
theorem dX8_lay_46 : decode cX8_lay 46 = .ok (.bipush (-12), 2) := by decide +kernel
theorem dX8_lay_48 : decode cX8_lay 48 = .ok (.ireturn, 1) := by decide +kernel
theorem dX8_lay_49 : decode cX8_lay 49 = .ok (.aload_n 0, 1) := by decide +kernel
theorem dX8_lay_50 : decode cX8_lay 50 = .ok (.getfield 68, 3) := by decide +kernel
theorem dX8_lay_53 : decode cX8_lay 53 = .ok (.bipush 40, 2) := by decide +kernel
theorem dX8_lay_55 : decode cX8_lay 55 = .ok (.iload_n 1, 1) := by decide +kernel
theorem dX8_lay_56 : decode cX8_lay 56 = .ok (.imul, 1) := by decide +kernel
theorem dX8_lay_57 : decode cX8_lay 57 = .ok (.iload_n 2, 1) := by decide +kernel
theorem dX8_lay_58 : decode cX8_lay 58 = .ok (.iadd, 1) := by decide +kernel
theorem dX8_lay_59 : decode cX8_lay 59 = .ok (.aload_n 0, 1) := by decide +kernel
theorem dX8_lay_60 : decode cX8_lay 60 = .ok (.getfield 62, 3) := by decide +kernel
theorem dX8_lay_63 : decode cX8_lay 63 = .ok (.iload_n 1, 1) := by decide +kernel
theorem dX8_lay_64 : decode cX8_lay 64 = .ok (.iaload, 1) := by decide +kernel
theorem dX8_lay_65 : decode cX8_lay 65 = .ok (.ifCond .ne 13, 3) := by decide +kernel
theorem dX8_lay_68 : decode cX8_lay 68 = .ok (.iload_n 3, 1) := by decide +kernel
theorem dX8_lay_69 : decode cX8_lay 69 = .ok (.bipush 24, 2) := by decide +kernel
theorem dX8_lay_71 : decode cX8_lay 71 = .ok (.ishl, 1) := by decide +kernel
theorem dX8_lay_72 : decode cX8_lay 72 = .ok (.bipush 24, 2) := by decide +kernel
theorem dX8_lay_74 : decode cX8_lay 74 = .ok (.ishr, 1) := by decide +kernel
theorem dX8_lay_75 : decode cX8_lay 75 = .ok (.goto 24, 3) := by decide +kernel
theorem dX8_lay_78 : decode cX8_lay 78 = .ok (.aload_n 0, 1) := by decide +kernel
theorem dX8_lay_79 : decode cX8_lay 79 = .ok (.getfield 62, 3) := by decide +kernel
theorem dX8_lay_82 : decode cX8_lay 82 = .ok (.iload_n 1, 1) := by decide +kernel
theorem dX8_lay_83 : decode cX8_lay 83 = .ok (.iaload, 1) := by decide +kernel
theorem dX8_lay_84 : decode cX8_lay 84 = .ok (.iconst 1, 1) := by decide +kernel
theorem dX8_lay_85 : decode cX8_lay 85 = .ok (.if_icmp .ne 13, 3) := by decide +kernel
theorem dX8_lay_88 : decode cX8_lay 88 = .ok (.iload_n 3, 1) := by decide +kernel
theorem dX8_lay_89 : decode cX8_lay 89 = .ok (.bipush 16, 2) := by decide +kernel
theorem dX8_lay_91 : decode cX8_lay 91 = .ok (.ishl, 1) := by decide +kernel
theorem dX8_lay_92 : decode cX8_lay 92 = .ok (.bipush 16, 2) := by decide +kernel
theorem dX8_lay_94 : decode cX8_lay 94 = .ok (.ishr, 1) := by decide +kernel
theorem dX8_lay_95 : decode cX8_lay 95 = .ok (.goto 4, 3) := by decide +kernel
theorem dX8_lay_98 : decode cX8_lay 98 = .ok (.iload_n 3, 1) := by decide +kernel
theorem dX8_lay_99 : decode cX8_lay 99 = .ok (.iastore, 1) := by decide +kernel
theorem dX8_lay_100 : decode cX8_lay 100 = .ok (.iconst 1, 1) := by decide +kernel
theorem dX8_lay_101 : decode cX8_lay 101 = .ok (.ireturn, 1) := by decide +kernel
theorem dX8_read_0 : decode cX8_read 0 = .ok (.iload_n 1, 1) := by decide +kernel
theorem dX8_read_1 : decode cX8_read 1 = .ok (.i2l, 1) := by decide +kernel
theorem dX8_read_2 : decode cX8_read 2 = .ok (.lconst 0, 1) := by decide +kernel
theorem dX8_read_3 : decode cX8_read 3 = .ok (.ldc2_w 171, 3) := by decide +kernel
theorem dX8_read_6 : decode cX8_read 6 = .ok (.invokestatic 79, 3) := by decide +kernel
theorem dX8_read_9 : decode cX8_read 9 = .ok (.ifCond .eq 28, 3) := by decide +kernel
theorem dX8_read_12 : decode cX8_read 12 = .ok (.iload_n 2, 1) := by decide +kernel
theorem dX8_read_13 : decode cX8_read 13 = .ok (.i2l, 1) := by decide +kernel
theorem dX8_read_14 : decode cX8_read 14 = .ok (.lconst 0, 1) := by decide +kernel
theorem dX8_read_15 : decode cX8_read 15 = .ok (.ldc2_w 177, 3) := by decide +kernel
theorem dX8_read_18 : decode cX8_read 18 = .ok (.invokestatic 79, 3) := by decide +kernel
theorem dX8_read_21 : decode cX8_read 21 = .ok (.ifCond .eq 16, 3) := by decide +kernel
theorem dX8_read_24 : decode cX8_read 24 = .ok (.iload 4, 2) := by decide +kernel
theorem dX8_read_26 : decode cX8_read 26 = .ok (.i2l, 1) := by decide +kernel
theorem dX8_read_27 : decode cX8_read 27 = .ok (.lconst 0, 1) := by decide +kernel
theorem dX8_read_28 : decode cX8_read 28 = .ok (.ldc2_w 289, 3) := by decide +kernel
theorem dX8_read_31 : decode cX8_read 31 = .ok (.invokestatic 79, 3) := by decide +kernel
theorem dX8_read_34 : decode cX8_read 34 = .ok (.ifCond .ne 5, 3) := by decide +kernel
theorem dX8_read_37 : decode cX8_read 37 = .ok (.iconst (-1), 1) := by decide +kernel
theorem dX8_read_38 : decode cX8_read 38 = .ok (.ireturn, 1) := by decide +kernel
theorem dX8_read_39 : decode cX8_read 39 = .ok (.iconst 0, 1) := by decide +kernel
theorem dX8_read_40 : decode cX8_read 40 = .ok (.istore 5, 2) := by decide +kernel
theorem dX8_read_42 : decode cX8_read 42 = .ok (.iconst 0, 1) := by decide +kernel
theorem dX8_read_43 : decode cX8_read 43 = .ok (.istore 6, 2) := by decide +kernel
theorem dX8_read_45 : decode cX8_read 45 = .ok (.iconst 0, 1) := by decide +kernel
theorem dX8_read_46 : decode cX8_read 46 = .ok (.istore 7, 2) := by decide +kernel
theorem dX8_read_48 : decode cX8_read 48 = .ok (.iconst 0, 1) := by decide +kernel
theorem dX8_read_49 : decode cX8_read 49 = .ok (.istore 8, 2) := by decide +kernel
theorem dX8_read_51 : decode cX8_read 51 = .ok (.iload 8, 2) := by decide +kernel
theorem dX8_read_53 : decode cX8_read 53 = .ok (.iconst 3, 1) := by decide +kernel
theorem dX8_read_54 : decode cX8_read 54 = .ok (.iload 4, 2) := by decide +kernel
theorem dX8_read_56 : decode cX8_read 56 = .ok (.imul, 1) := by decide +kernel
theorem dX8_read_57 : decode cX8_read 57 = .ok (.if_icmp .ge 155, 3) := by decide +kernel
theorem dX8_read_60 : decode cX8_read 60 = .ok (.iload 5, 2) := by decide +kernel
theorem dX8_read_62 : decode cX8_read 62 = .ok (.ifCond .ne 150, 3) := by decide +kernel
theorem dX8_read_65 : decode cX8_read 65 = .ok (.iload 7, 2) := by decide +kernel
theorem dX8_read_67 : decode cX8_read 67 = .ok (.ifCond .ne 145, 3) := by decide +kernel
theorem dX8_read_70 : decode cX8_read 70 = .ok (.aload_n 0, 1) := by decide +kernel
theorem dX8_read_71 : decode cX8_read 71 = .ok (.getfield 62, 3) := by decide +kernel
theorem dX8_read_74 : decode cX8_read 74 = .ok (.iload_n 1, 1) := by decide +kernel
theorem dX8_read_75 : decode cX8_read 75 = .ok (.iaload, 1) := by decide +kernel
theorem dX8_read_76 : decode cX8_read 76 = .ok (.bipush (-4), 2) := by decide +kernel
theorem dX8_read_78 : decode cX8_read 78 = .ok (.if_icmp .ne 7, 3) := by decide +kernel
theorem dX8_read_81 : decode cX8_read 81 = .ok (.iconst 1, 1) := by decide +kernel
theorem dX8_read_82 : decode cX8_read 82 = .ok (.goto 44, 3) := by decide +kernel
theorem dX8_read_85 : decode cX8_read 85 = .ok (.aload_n 0, 1) := by decide +kernel
theorem dX8_read_86 : decode cX8_read 86 = .ok (.getfield 62, 3) := by decide +kernel
theorem dX8_read_89 : decode cX8_read 89 = .ok (.iload_n 1, 1) := by decide +kernel
theorem dX8_read_90 : decode cX8_read 90 = .ok (.iaload, 1) := by decide +kernel
theorem dX8_read_91 : decode cX8_read 91 = .ok (.iload_n 2, 1) := by decide +kernel
theorem dX8_read_92 : decode cX8_read 92 = .ok (.if_icmp .eq 7, 3) := by decide +kernel
theorem dX8_read_95 : decode cX8_read 95 = .ok (.iconst 3, 1) := by decide +kernel
theorem dX8_read_96 : decode cX8_read 96 = .ok (.goto 30, 3) := by decide +kernel
theorem dX8_read_99 : decode cX8_read 99 = .ok (.iload_n 3, 1) := by decide +kernel
theorem dX8_read_100 : decode cX8_read 100 = .ok (.i2l, 1) := by decide +kernel
theorem dX8_read_101 : decode cX8_read 101 = .ok (.iload 8, 2) := by decide +kernel
theorem dX8_read_103 : decode cX8_read 103 = .ok (.i2l, 1) := by decide +kernel
theorem dX8_read_104 : decode cX8_read 104 = .ok (.ladd, 1) := by decide +kernel
theorem dX8_read_105 : decode cX8_read 105 = .ok (.lconst 0, 1) := by decide +kernel
theorem dX8_read_106 : decode cX8_read 106 = .ok (.aload_n 0, 1) := by decide +kernel
theorem dX8_read_107 : decode cX8_read 107 = .ok (.getfield 65, 3) := by decide +kernel
theorem dX8_read_110 : decode cX8_read 110 = .ok (.iload_n 1, 1) := by decide +kernel
theorem dX8_read_111 : decode cX8_read 111 = .ok (.iaload, 1) := by decide +kernel
theorem dX8_read_112 : decode cX8_read 112 = .ok (.iconst 1, 1) := by decide +kernel

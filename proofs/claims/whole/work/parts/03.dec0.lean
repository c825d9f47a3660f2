theorem dX0_init_0 : decode cX0_init 0 = .ok (.aload_n 0, 1) := by decide +kernel
theorem dX0_init_1 : decode cX0_init 1 = .ok (.invokespecial 3, 3) := by decide +kernel
theorem dX0_init_4 : decode cX0_init 4 = .ok (.aload_n 0, 1) := by decide +kernel
theorem dX0_init_5 : decode cX0_init 5 = .ok (.bipush 24, 2) := by decide +kernel
theorem dX0_init_7 : decode cX0_init 7 = .ok (.newarray .int, 2) := by decide +kernel
theorem dX0_init_9 : decode cX0_init 9 = .ok (.putfield 9, 3) := by decide +kernel
theorem dX0_init_12 : decode cX0_init 12 = .ok (.aload_n 0, 1) := by decide +kernel
theorem dX0_init_13 : decode cX0_init 13 = .ok (.bipush 24, 2) := by decide +kernel
theorem dX0_init_15 : decode cX0_init 15 = .ok (.newarray .int, 2) := by decide +kernel
theorem dX0_init_17 : decode cX0_init 17 = .ok (.putfield 15, 3) := by decide +kernel
theorem dX0_init_20 : decode cX0_init 20 = .ok (.aload_n 0, 1) := by decide +kernel
theorem dX0_init_21 : decode cX0_init 21 = .ok (.bipush 24, 2) := by decide +kernel
theorem dX0_init_23 : decode cX0_init 23 = .ok (.newarray .int, 2) := by decide +kernel
theorem dX0_init_25 : decode cX0_init 25 = .ok (.putfield 18, 3) := by decide +kernel
theorem dX0_init_28 : decode cX0_init 28 = .ok (.aload_n 0, 1) := by decide +kernel
theorem dX0_init_29 : decode cX0_init 29 = .ok (.bipush 24, 2) := by decide +kernel
theorem dX0_init_31 : decode cX0_init 31 = .ok (.newarray .int, 2) := by decide +kernel
theorem dX0_init_33 : decode cX0_init 33 = .ok (.putfield 21, 3) := by decide +kernel
theorem dX0_init_36 : decode cX0_init 36 = .ok (.return_, 1) := by decide +kernel
theorem dX0_clear_0 : decode cX0_clear 0 = .ok (.aload_n 0, 1) := by decide +kernel
theorem dX0_clear_1 : decode cX0_clear 1 = .ok (.iconst 0, 1) := by decide +kernel
theorem dX0_clear_2 : decode cX0_clear 2 = .ok (.putfield 24, 3) := by decide +kernel
theorem dX0_clear_5 : decode cX0_clear 5 = .ok (.aload_n 0, 1) := by decide +kernel
theorem dX0_clear_6 : decode cX0_clear 6 = .ok (.iconst 0, 1) := by decide +kernel
theorem dX0_clear_7 : decode cX0_clear 7 = .ok (.putfield 28, 3) := by decide +kernel
theorem dX0_clear_10 : decode cX0_clear 10 = .ok (.return_, 1) := by decide +kernel
theorem dX0_add_0 : decode cX0_add 0 = .ok (.aload_n 0, 1) := by decide +kernel
theorem dX0_add_1 : decode cX0_add 1 = .ok (.getfield 24, 3) := by decide +kernel
theorem dX0_add_4 : decode cX0_add 4 = .ok (.bipush 24, 2) := by decide +kernel
theorem dX0_add_6 : decode cX0_add 6 = .ok (.if_icmp .lt 5, 3) := by decide +kernel
theorem dX0_add_9 : decode cX0_add 9 = .ok (.iconst 0, 1) := by decide +kernel
theorem dX0_add_10 : decode cX0_add 10 = .ok (.ireturn, 1) := by decide +kernel
theorem dX0_add_11 : decode cX0_add 11 = .ok (.aload_n 0, 1) := by decide +kernel
theorem dX0_add_12 : decode cX0_add 12 = .ok (.getfield 9, 3) := by decide +kernel
theorem dX0_add_15 : decode cX0_add 15 = .ok (.aload_n 0, 1) := by decide +kernel
theorem dX0_add_16 : decode cX0_add 16 = .ok (.getfield 24, 3) := by decide +kernel
theorem dX0_add_19 : decode cX0_add 19 = .ok (.iload_n 1, 1) := by decide +kernel
theorem dX0_add_20 : decode cX0_add 20 = .ok (.iastore, 1) := by decide +kernel
theorem dX0_add_21 : decode cX0_add 21 = .ok (.aload_n 0, 1) := by decide +kernel
theorem dX0_add_22 : decode cX0_add 22 = .ok (.getfield 15, 3) := by decide +kernel
theorem dX0_add_25 : decode cX0_add 25 = .ok (.aload_n 0, 1) := by decide +kernel
theorem dX0_add_26 : decode cX0_add 26 = .ok (.getfield 24, 3) := by decide +kernel
theorem dX0_add_29 : decode cX0_add 29 = .ok (.iload_n 2, 1) := by decide +kernel
theorem dX0_add_30 : decode cX0_add 30 = .ok (.iastore, 1) := by decide +kernel
theorem dX0_add_31 : decode cX0_add 31 = .ok (.aload_n 0, 1) := by decide +kernel
theorem dX0_add_32 : decode cX0_add 32 = .ok (.getfield 18, 3) := by decide +kernel
theorem dX0_add_35 : decode cX0_add 35 = .ok (.aload_n 0, 1) := by decide +kernel
theorem dX0_add_36 : decode cX0_add 36 = .ok (.getfield 24, 3) := by decide +kernel
theorem dX0_add_39 : decode cX0_add 39 = .ok (.iload_n 3, 1) := by decide +kernel
theorem dX0_add_40 : decode cX0_add 40 = .ok (.iastore, 1) := by decide +kernel
theorem dX0_add_41 : decode cX0_add 41 = .ok (.aload_n 0, 1) := by decide +kernel
theorem dX0_add_42 : decode cX0_add 42 = .ok (.dup, 1) := by decide +kernel
theorem dX0_add_43 : decode cX0_add 43 = .ok (.getfield 24, 3) := by decide +kernel
theorem dX0_add_46 : decode cX0_add 46 = .ok (.iconst 1, 1) := by decide +kernel
theorem dX0_add_47 : decode cX0_add 47 = .ok (.iadd, 1) := by decide +kernel
theorem dX0_add_48 : decode cX0_add 48 = .ok (.putfield 24, 3) := by decide +kernel
theorem dX0_add_51 : decode cX0_add 51 = .ok (.iconst 1, 1) := by decide +kernel
theorem dX0_add_52 : decode cX0_add 52 = .ok (.ireturn, 1) := by decide +kernel
theorem dX0_tonesOf_0 : decode cX0_tonesOf 0 = .ok (.iconst 0, 1) := by decide +kernel
theorem dX0_tonesOf_1 : decode cX0_tonesOf 1 = .ok (.istore_n 2, 1) := by decide +kernel
theorem dX0_tonesOf_2 : decode cX0_tonesOf 2 = .ok (.iconst 0, 1) := by decide +kernel
theorem dX0_tonesOf_3 : decode cX0_tonesOf 3 = .ok (.istore_n 3, 1) := by decide +kernel
theorem dX0_tonesOf_4 : decode cX0_tonesOf 4 = .ok (.iload_n 3, 1) := by decide +kernel
theorem dX0_tonesOf_5 : decode cX0_tonesOf 5 = .ok (.aload_n 0, 1) := by decide +kernel
theorem dX0_tonesOf_6 : decode cX0_tonesOf 6 = .ok (.getfield 24, 3) := by decide +kernel
theorem dX0_tonesOf_9 : decode cX0_tonesOf 9 = .ok (.if_icmp .ge 30, 3) := by decide +kernel
theorem dX0_tonesOf_12 : decode cX0_tonesOf 12 = .ok (.aload_n 0, 1) := by decide +kernel
theorem dX0_tonesOf_13 : decode cX0_tonesOf 13 = .ok (.getfield 9, 3) := by decide +kernel
theorem dX0_tonesOf_16 : decode cX0_tonesOf 16 = .ok (.iload_n 3, 1) := by decide +kernel
theorem dX0_tonesOf_17 : decode cX0_tonesOf 17 = .ok (.iaload, 1) := by decide +kernel
theorem dX0_tonesOf_18 : decode cX0_tonesOf 18 = .ok (.iload_n 1, 1) := by decide +kernel
theorem dX0_tonesOf_19 : decode cX0_tonesOf 19 = .ok (.if_icmp .ne 14, 3) := by decide +kernel
theorem dX0_tonesOf_22 : decode cX0_tonesOf 22 = .ok (.iload_n 2, 1) := by decide +kernel
theorem dX0_tonesOf_23 : decode cX0_tonesOf 23 = .ok (.iconst 1, 1) := by decide +kernel
theorem dX0_tonesOf_24 : decode cX0_tonesOf 24 = .ok (.aload_n 0, 1) := by decide +kernel
theorem dX0_tonesOf_25 : decode cX0_tonesOf 25 = .ok (.getfield 18, 3) := by decide +kernel
theorem dX0_tonesOf_28 : decode cX0_tonesOf 28 = .ok (.iload_n 3, 1) := by decide +kernel
theorem dX0_tonesOf_29 : decode cX0_tonesOf 29 = .ok (.iaload, 1) := by decide +kernel
theorem dX0_tonesOf_30 : decode cX0_tonesOf 30 = .ok (.ishl, 1) := by decide +kernel
theorem dX0_tonesOf_31 : decode cX0_tonesOf 31 = .ok (.ior, 1) := by decide +kernel
theorem dX0_tonesOf_32 : decode cX0_tonesOf 32 = .ok (.istore_n 2, 1) := by decide +kernel
theorem dX0_tonesOf_33 : decode cX0_tonesOf 33 = .ok (.iinc 3 1, 3) := by decide +kernel
theorem dX0_tonesOf_36 : decode cX0_tonesOf 36 = .ok (.goto (-32), 3) := by decide +kernel
theorem dX0_tonesOf_39 : decode cX0_tonesOf 39 = .ok (.iload_n 2, 1) := by decide +kernel
theorem dX0_tonesOf_40 : decode cX0_tonesOf 40 = .ok (.ireturn, 1) := by decide +kernel
theorem dX0_copyFrom_0 : decode cX0_copyFrom 0 = .ok (.aload_n 1, 1) := by decide +kernel
theorem dX0_copyFrom_1 : decode cX0_copyFrom 1 = .ok (.getfield 9, 3) := by decide +kernel
theorem dX0_copyFrom_4 : decode cX0_copyFrom 4 = .ok (.iconst 0, 1) := by decide +kernel
theorem dX0_copyFrom_5 : decode cX0_copyFrom 5 = .ok (.aload_n 0, 1) := by decide +kernel
theorem dX0_copyFrom_6 : decode cX0_copyFrom 6 = .ok (.getfield 9, 3) := by decide +kernel
theorem dX0_copyFrom_9 : decode cX0_copyFrom 9 = .ok (.iconst 0, 1) := by decide +kernel
theorem dX0_copyFrom_10 : decode cX0_copyFrom 10 = .ok (.bipush 24, 2) := by decide +kernel
theorem dX0_copyFrom_12 : decode cX0_copyFrom 12 = .ok (.invokestatic 31, 3) := by decide +kernel
theorem dX0_copyFrom_15 : decode cX0_copyFrom 15 = .ok (.aload_n 1, 1) := by decide +kernel
theorem dX0_copyFrom_16 : decode cX0_copyFrom 16 = .ok (.getfield 15, 3) := by decide +kernel
theorem dX0_copyFrom_19 : decode cX0_copyFrom 19 = .ok (.iconst 0, 1) := by decide +kernel
theorem dX0_copyFrom_20 : decode cX0_copyFrom 20 = .ok (.aload_n 0, 1) := by decide +kernel
theorem dX0_copyFrom_21 : decode cX0_copyFrom 21 = .ok (.getfield 15, 3) := by decide +kernel
theorem dX0_copyFrom_24 : decode cX0_copyFrom 24 = .ok (.iconst 0, 1) := by decide +kernel
theorem dX0_copyFrom_25 : decode cX0_copyFrom 25 = .ok (.bipush 24, 2) := by decide +kernel
theorem dX0_copyFrom_27 : decode cX0_copyFrom 27 = .ok (.invokestatic 31, 3) := by decide +kernel
theorem dX0_copyFrom_30 : decode cX0_copyFrom 30 = .ok (.aload_n 1, 1) := by decide +kernel
theorem dX0_copyFrom_31 : decode cX0_copyFrom 31 = .ok (.getfield 18, 3) := by decide +kernel
theorem dX0_copyFrom_34 : decode cX0_copyFrom 34 = .ok (.iconst 0, 1) := by decide +kernel
theorem dX0_copyFrom_35 : decode cX0_copyFrom 35 = .ok (.aload_n 0, 1) := by decide +kernel
theorem dX0_copyFrom_36 : decode cX0_copyFrom 36 = .ok (.getfield 18, 3) := by decide +kernel
theorem dX0_copyFrom_39 : decode cX0_copyFrom 39 = .ok (.iconst 0, 1) := by decide +kernel
theorem dX0_copyFrom_40 : decode cX0_copyFrom 40 = .ok (.bipush 24, 2) := by decide +kernel
theorem dX0_copyFrom_42 : decode cX0_copyFrom 42 = .ok (.invokestatic 31, 3) := by decide +kernel
theorem dX0_copyFrom_45 : decode cX0_copyFrom 45 = .ok (.aload_n 1, 1) := by decide +kernel
theorem dX0_copyFrom_46 : decode cX0_copyFrom 46 = .ok (.getfield 21, 3) := by decide +kernel
theorem dX0_copyFrom_49 : decode cX0_copyFrom 49 = .ok (.iconst 0, 1) := by decide +kernel
theorem dX0_copyFrom_50 : decode cX0_copyFrom 50 = .ok (.aload_n 0, 1) := by decide +kernel
theorem dX0_copyFrom_51 : decode cX0_copyFrom 51 = .ok (.getfield 21, 3) := by decide +kernel
theorem dX0_copyFrom_54 : decode cX0_copyFrom 54 = .ok (.iconst 0, 1) := by decide +kernel
theorem dX0_copyFrom_55 : decode cX0_copyFrom 55 = .ok (.bipush 24, 2) := by decide +kernel
theorem dX0_copyFrom_57 : decode cX0_copyFrom 57 = .ok (.invokestatic 31, 3) := by decide +kernel
theorem dX0_copyFrom_60 : decode cX0_copyFrom 60 = .ok (.aload_n 0, 1) := by decide +kernel
theorem dX0_copyFrom_61 : decode cX0_copyFrom 61 = .ok (.aload_n 1, 1) := by decide +kernel
theorem dX0_copyFrom_62 : decode cX0_copyFrom 62 = .ok (.getfield 24, 3) := by decide +kernel
theorem dX0_copyFrom_65 : decode cX0_copyFrom 65 = .ok (.putfield 24, 3) := by decide +kernel
theorem dX0_copyFrom_68 : decode cX0_copyFrom 68 = .ok (.aload_n 0, 1) := by decide +kernel
theorem dX0_copyFrom_69 : decode cX0_copyFrom 69 = .ok (.aload_n 1, 1) := by decide +kernel
theorem dX0_copyFrom_70 : decode cX0_copyFrom 70 = .ok (.getfield 28, 3) := by decide +kernel
theorem dX0_copyFrom_73 : decode cX0_copyFrom 73 = .ok (.putfield 28, 3) := by decide +kernel
theorem dX0_copyFrom_76 : decode cX0_copyFrom 76 = .ok (.return_, 1) := by decide +kernel
theorem dX1_init_0 : decode cX1_init 0 = .ok (.aload_n 0, 1) := by decide +kernel
theorem dX1_init_1 : decode cX1_init 1 = .ok (.invokespecial 3, 3) := by decide +kernel
theorem dX1_init_4 : decode cX1_init 4 = .ok (.aload_n 0, 1) := by decide +kernel
theorem dX1_init_5 : decode cX1_init 5 = .ok (.bipush 24, 2) := by decide +kernel
theorem dX1_init_7 : decode cX1_init 7 = .ok (.newarray .int, 2) := by decide +kernel
theorem dX1_init_9 : decode cX1_init 9 = .ok (.putfield 9, 3) := by decide +kernel
theorem dX1_init_12 : decode cX1_init 12 = .ok (.aload_n 0, 1) := by decide +kernel
theorem dX1_init_13 : decode cX1_init 13 = .ok (.bipush 24, 2) := by decide +kernel
theorem dX1_init_15 : decode cX1_init 15 = .ok (.newarray .int, 2) := by decide +kernel
theorem dX1_init_17 : decode cX1_init 17 = .ok (.putfield 15, 3) := by decide +kernel
theorem dX1_init_20 : decode cX1_init 20 = .ok (.aload_n 0, 1) := by decide +kernel
theorem dX1_init_21 : decode cX1_init 21 = .ok (.bipush 24, 2) := by decide +kernel
theorem dX1_init_23 : decode cX1_init 23 = .ok (.newarray .int, 2) := by decide +kernel
theorem dX1_init_25 : decode cX1_init 25 = .ok (.putfield 18, 3) := by decide +kernel
theorem dX1_init_28 : decode cX1_init 28 = .ok (.aload_n 0, 1) := by decide +kernel
theorem dX1_init_29 : decode cX1_init 29 = .ok (.bipush 24, 2) := by decide +kernel
theorem dX1_init_31 : decode cX1_init 31 = .ok (.newarray .int, 2) := by decide +kernel
theorem dX1_init_33 : decode cX1_init 33 = .ok (.putfield 21, 3) := by decide +kernel
theorem dX1_init_36 : decode cX1_init 36 = .ok (.aload_n 0, 1) := by decide +kernel
theorem dX1_init_37 : decode cX1_init 37 = .ok (.bipush 24, 2) := by decide +kernel
theorem dX1_init_39 : decode cX1_init 39 = .ok (.newarray .int, 2) := by decide +kernel
theorem dX1_init_41 : decode cX1_init 41 = .ok (.putfield 24, 3) := by decide +kernel
theorem dX1_init_44 : decode cX1_init 44 = .ok (.return_, 1) := by decide +kernel
theorem dX1_begin_0 : decode cX1_begin 0 = .ok (.aload_n 0, 1) := by decide +kernel
theorem dX1_begin_1 : decode cX1_begin 1 = .ok (.iload_n 1, 1) := by decide +kernel
theorem dX1_begin_2 : decode cX1_begin 2 = .ok (.bipush 24, 2) := by decide +kernel
theorem dX1_begin_4 : decode cX1_begin 4 = .ok (.invokestatic 27, 3) := by decide +kernel
theorem dX1_begin_7 : decode cX1_begin 7 = .ok (.putfield 33, 3) := by decide +kernel
theorem dX1_begin_10 : decode cX1_begin 10 = .ok (.iconst 0, 1) := by decide +kernel
theorem dX1_begin_11 : decode cX1_begin 11 = .ok (.istore_n 2, 1) := by decide +kernel
theorem dX1_begin_12 : decode cX1_begin 12 = .ok (.iload_n 2, 1) := by decide +kernel
theorem dX1_begin_13 : decode cX1_begin 13 = .ok (.aload_n 0, 1) := by decide +kernel
theorem dX1_begin_14 : decode cX1_begin 14 = .ok (.getfield 33, 3) := by decide +kernel
theorem dX1_begin_17 : decode cX1_begin 17 = .ok (.if_icmp .ge 30, 3) := by decide +kernel
theorem dX1_begin_20 : decode cX1_begin 20 = .ok (.aload_n 0, 1) := by decide +kernel
theorem dX1_begin_21 : decode cX1_begin 21 = .ok (.getfield 9, 3) := by decide +kernel
theorem dX1_begin_24 : decode cX1_begin 24 = .ok (.iload_n 2, 1) := by decide +kernel
theorem dX1_begin_25 : decode cX1_begin 25 = .ok (.iconst 0, 1) := by decide +kernel
theorem dX1_begin_26 : decode cX1_begin 26 = .ok (.iastore, 1) := by decide +kernel
theorem dX1_begin_27 : decode cX1_begin 27 = .ok (.aload_n 0, 1) := by decide +kernel
theorem dX1_begin_28 : decode cX1_begin 28 = .ok (.getfield 15, 3) := by decide +kernel
theorem dX1_begin_31 : decode cX1_begin 31 = .ok (.iload_n 2, 1) := by decide +kernel
theorem dX1_begin_32 : decode cX1_begin 32 = .ok (.iconst (-1), 1) := by decide +kernel
theorem dX1_begin_33 : decode cX1_begin 33 = .ok (.iastore, 1) := by decide +kernel
theorem dX1_begin_34 : decode cX1_begin 34 = .ok (.aload_n 0, 1) := by decide +kernel
theorem dX1_begin_35 : decode cX1_begin 35 = .ok (.getfield 18, 3) := by decide +kernel
theorem dX1_begin_38 : decode cX1_begin 38 = .ok (.iload_n 2, 1) := by decide +kernel
theorem dX1_begin_39 : decode cX1_begin 39 = .ok (.iconst (-1), 1) := by decide +kernel
theorem dX1_begin_40 : decode cX1_begin 40 = .ok (.iastore, 1) := by decide +kernel
theorem dX1_begin_41 : decode cX1_begin 41 = .ok (.iinc 2 1, 3) := by decide +kernel
theorem dX1_begin_44 : decode cX1_begin 44 = .ok (.goto (-32), 3) := by decide +kernel
theorem dX1_begin_47 : decode cX1_begin 47 = .ok (.return_, 1) := by decide +kernel
theorem dX1_allow_0 : decode cX1_allow 0 = .ok (.aload_n 0, 1) := by decide +kernel
theorem dX1_allow_1 : decode cX1_allow 1 = .ok (.getfield 9, 3) := by decide +kernel
theorem dX1_allow_4 : decode cX1_allow 4 = .ok (.iload_n 1, 1) := by decide +kernel
theorem dX1_allow_5 : decode cX1_allow 5 = .ok (.dup2, 1) := by decide +kernel
theorem dX1_allow_6 : decode cX1_allow 6 = .ok (.iaload, 1) := by decide +kernel
theorem dX1_allow_7 : decode cX1_allow 7 = .ok (.iconst 1, 1) := by decide +kernel
theorem dX1_allow_8 : decode cX1_allow 8 = .ok (.iload_n 2, 1) := by decide +kernel
theorem dX1_allow_9 : decode cX1_allow 9 = .ok (.ishl, 1) := by decide +kernel
theorem dX1_allow_10 : decode cX1_allow 10 = .ok (.ior, 1) := by decide +kernel
theorem dX1_allow_11 : decode cX1_allow 11 = .ok (.iastore, 1) := by decide +kernel
theorem dX1_allow_12 : decode cX1_allow 12 = .ok (.return_, 1) := by decide +kernel
theorem dX1_least_0 : decode cX1_least 0 = .ok (.iconst 0, 1) := by decide +kernel
theorem dX1_least_1 : decode cX1_least 1 = .ok (.istore_n 1, 1) := by decide +kernel
theorem dX1_least_2 : decode cX1_least 2 = .ok (.iconst 0, 1) := by decide +kernel
theorem dX1_least_3 : decode cX1_least 3 = .ok (.istore_n 2, 1) := by decide +kernel
theorem dX1_least_4 : decode cX1_least 4 = .ok (.iload_n 2, 1) := by decide +kernel
theorem dX1_least_5 : decode cX1_least 5 = .ok (.aload_n 0, 1) := by decide +kernel
theorem dX1_least_6 : decode cX1_least 6 = .ok (.getfield 33, 3) := by decide +kernel
theorem dX1_least_9 : decode cX1_least 9 = .ok (.if_icmp .ge 28, 3) := by decide +kernel
theorem dX1_least_12 : decode cX1_least 12 = .ok (.aload_n 0, 1) := by decide +kernel
theorem dX1_least_13 : decode cX1_least 13 = .ok (.iload_n 2, 1) := by decide +kernel
theorem dX1_least_14 : decode cX1_least 14 = .ok (.invokevirtual 37, 3) := by decide +kernel
theorem dX1_least_17 : decode cX1_least 17 = .ok (.istore_n 3, 1) := by decide +kernel
theorem dX1_least_18 : decode cX1_least 18 = .ok (.iload_n 3, 1) := by decide +kernel
theorem dX1_least_19 : decode cX1_least 19 = .ok (.iconst (-1), 1) := by decide +kernel
theorem dX1_least_20 : decode cX1_least 20 = .ok (.if_icmp .eq 11, 3) := by decide +kernel
theorem dX1_least_23 : decode cX1_least 23 = .ok (.aload_n 0, 1) := by decide +kernel
theorem dX1_least_24 : decode cX1_least 24 = .ok (.iload_n 3, 1) := by decide +kernel
theorem dX1_least_25 : decode cX1_least 25 = .ok (.invokevirtual 41, 3) := by decide +kernel
theorem dX1_least_28 : decode cX1_least 28 = .ok (.iinc 1 1, 3) := by decide +kernel
theorem dX1_least_31 : decode cX1_least 31 = .ok (.iinc 2 1, 3) := by decide +kernel
theorem dX1_least_34 : decode cX1_least 34 = .ok (.goto (-30), 3) := by decide +kernel
theorem dX1_least_37 : decode cX1_least 37 = .ok (.aload_n 0, 1) := by decide +kernel
theorem dX1_least_38 : decode cX1_least 38 = .ok (.getfield 33, 3) := by decide +kernel
theorem dX1_least_41 : decode cX1_least 41 = .ok (.iload_n 1, 1) := by decide +kernel
theorem dX1_least_42 : decode cX1_least 42 = .ok (.isub, 1) := by decide +kernel
theorem dX1_least_43 : decode cX1_least 43 = .ok (.ireturn, 1) := by decide +kernel
theorem dX1_findFree_0 : decode cX1_findFree 0 = .ok (.iconst 0, 1) := by decide +kernel
theorem dX1_findFree_1 : decode cX1_findFree 1 = .ok (.istore_n 2, 1) := by decide +kernel
theorem dX1_findFree_2 : decode cX1_findFree 2 = .ok (.iconst 1, 1) := by decide +kernel
theorem dX1_findFree_3 : decode cX1_findFree 3 = .ok (.istore_n 3, 1) := by decide +kernel
theorem dX1_findFree_4 : decode cX1_findFree 4 = .ok (.aload_n 0, 1) := by decide +kernel
theorem dX1_findFree_5 : decode cX1_findFree 5 = .ok (.getfield 24, 3) := by decide +kernel
theorem dX1_findFree_8 : decode cX1_findFree 8 = .ok (.iconst 0, 1) := by decide +kernel
theorem dX1_findFree_9 : decode cX1_findFree 9 = .ok (.iload_n 1, 1) := by decide +kernel
theorem dX1_findFree_10 : decode cX1_findFree 10 = .ok (.iastore, 1) := by decide +kernel
theorem dX1_findFree_11 : decode cX1_findFree 11 = .ok (.iconst 0, 1) := by decide +kernel
theorem dX1_findFree_12 : decode cX1_findFree 12 = .ok (.istore 4, 2) := by decide +kernel
theorem dX1_findFree_14 : decode cX1_findFree 14 = .ok (.iload 4, 2) := by decide +kernel
theorem dX1_findFree_16 : decode cX1_findFree 16 = .ok (.iload_n 3, 1) := by decide +kernel
theorem dX1_findFree_17 : decode cX1_findFree 17 = .ok (.if_icmp .ge 107, 3) := by decide +kernel
theorem dX1_findFree_20 : decode cX1_findFree 20 = .ok (.aload_n 0, 1) := by decide +kernel
theorem dX1_findFree_21 : decode cX1_findFree 21 = .ok (.getfield 24, 3) := by decide +kernel
theorem dX1_findFree_24 : decode cX1_findFree 24 = .ok (.iload 4, 2) := by decide +kernel
theorem dX1_findFree_26 : decode cX1_findFree 26 = .ok (.iaload, 1) := by decide +kernel
theorem dX1_findFree_27 : decode cX1_findFree 27 = .ok (.istore 5, 2) := by decide +kernel
theorem dX1_findFree_29 : decode cX1_findFree 29 = .ok (.iconst 0, 1) := by decide +kernel
theorem dX1_findFree_30 : decode cX1_findFree 30 = .ok (.istore 6, 2) := by decide +kernel
theorem dX1_findFree_32 : decode cX1_findFree 32 = .ok (.iload 6, 2) := by decide +kernel
theorem dX1_findFree_34 : decode cX1_findFree 34 = .ok (.aload_n 0, 1) := by decide +kernel
theorem dX1_findFree_35 : decode cX1_findFree 35 = .ok (.getfield 33, 3) := by decide +kernel
theorem dX1_findFree_38 : decode cX1_findFree 38 = .ok (.if_icmp .ge 80, 3) := by decide +kernel
theorem dX1_findFree_41 : decode cX1_findFree 41 = .ok (.aload_n 0, 1) := by decide +kernel
theorem dX1_findFree_42 : decode cX1_findFree 42 = .ok (.getfield 9, 3) := by decide +kernel
theorem dX1_findFree_45 : decode cX1_findFree 45 = .ok (.iload 5, 2) := by decide +kernel
theorem dX1_findFree_47 : decode cX1_findFree 47 = .ok (.iaload, 1) := by decide +kernel
theorem dX1_findFree_48 : decode cX1_findFree 48 = .ok (.iload_n 2, 1) := by decide +kernel
theorem dX1_findFree_49 : decode cX1_findFree 49 = .ok (.iconst (-1), 1) := by decide +kernel
theorem dX1_findFree_50 : decode cX1_findFree 50 = .ok (.ixor, 1) := by decide +kernel
theorem dX1_findFree_51 : decode cX1_findFree 51 = .ok (.iand, 1) := by decide +kernel
theorem dX1_findFree_52 : decode cX1_findFree 52 = .ok (.iconst 1, 1) := by decide +kernel
theorem dX1_findFree_53 : decode cX1_findFree 53 = .ok (.iload 6, 2) := by decide +kernel
theorem dX1_findFree_55 : decode cX1_findFree 55 = .ok (.ishl, 1) := by decide +kernel
theorem dX1_findFree_56 : decode cX1_findFree 56 = .ok (.iand, 1) := by decide +kernel
theorem dX1_findFree_57 : decode cX1_findFree 57 = .ok (.ifCond .eq 55, 3) := by decide +kernel
theorem dX1_findFree_60 : decode cX1_findFree 60 = .ok (.iload_n 2, 1) := by decide +kernel
theorem dX1_findFree_61 : decode cX1_findFree 61 = .ok (.iconst 1, 1) := by decide +kernel
theorem dX1_findFree_62 : decode cX1_findFree 62 = .ok (.iload 6, 2) := by decide +kernel
theorem dX1_findFree_64 : decode cX1_findFree 64 = .ok (.ishl, 1) := by decide +kernel
theorem dX1_findFree_65 : decode cX1_findFree 65 = .ok (.ior, 1) := by decide +kernel
theorem dX1_findFree_66 : decode cX1_findFree 66 = .ok (.istore_n 2, 1) := by decide +kernel
theorem dX1_findFree_67 : decode cX1_findFree 67 = .ok (.aload_n 0, 1) := by decide +kernel
theorem dX1_findFree_68 : decode cX1_findFree 68 = .ok (.getfield 21, 3) := by decide +kernel
theorem dX1_findFree_71 : decode cX1_findFree 71 = .ok (.iload 6, 2) := by decide +kernel
theorem dX1_findFree_73 : decode cX1_findFree 73 = .ok (.iload 5, 2) := by decide +kernel
theorem dX1_findFree_75 : decode cX1_findFree 75 = .ok (.iastore, 1) := by decide +kernel
theorem dX1_findFree_76 : decode cX1_findFree 76 = .ok (.aload_n 0, 1) := by decide +kernel
theorem dX1_findFree_77 : decode cX1_findFree 77 = .ok (.getfield 15, 3) := by decide +kernel
theorem dX1_findFree_80 : decode cX1_findFree 80 = .ok (.iload 6, 2) := by decide +kernel
theorem dX1_findFree_82 : decode cX1_findFree 82 = .ok (.iaload, 1) := by decide +kernel
theorem dX1_findFree_83 : decode cX1_findFree 83 = .ok (.iconst (-1), 1) := by decide +kernel
theorem dX1_findFree_84 : decode cX1_findFree 84 = .ok (.if_icmp .ne 6, 3) := by decide +kernel
theorem dX1_findFree_87 : decode cX1_findFree 87 = .ok (.iload 6, 2) := by decide +kernel
theorem dX1_findFree_89 : decode cX1_findFree 89 = .ok (.ireturn, 1) := by decide +kernel
theorem dX1_findFree_90 : decode cX1_findFree 90 = .ok (.iload_n 3, 1) := by decide +kernel
theorem dX1_findFree_91 : decode cX1_findFree 91 = .ok (.bipush 24, 2) := by decide +kernel
theorem dX1_findFree_93 : decode cX1_findFree 93 = .ok (.if_icmp .ge 19, 3) := by decide +kernel
theorem dX1_findFree_96 : decode cX1_findFree 96 = .ok (.aload_n 0, 1) := by decide +kernel
theorem dX1_findFree_97 : decode cX1_findFree 97 = .ok (.getfield 24, 3) := by decide +kernel
theorem dX1_findFree_100 : decode cX1_findFree 100 = .ok (.iload_n 3, 1) := by decide +kernel
theorem dX1_findFree_101 : decode cX1_findFree 101 = .ok (.aload_n 0, 1) := by decide +kernel
theorem dX1_findFree_102 : decode cX1_findFree 102 = .ok (.getfield 15, 3) := by decide +kernel
theorem dX1_findFree_105 : decode cX1_findFree 105 = .ok (.iload 6, 2) := by decide +kernel
theorem dX1_findFree_107 : decode cX1_findFree 107 = .ok (.iaload, 1) := by decide +kernel
theorem dX1_findFree_108 : decode cX1_findFree 108 = .ok (.iastore, 1) := by decide +kernel
theorem dX1_findFree_109 : decode cX1_findFree 109 = .ok (.iinc 3 1, 3) := by decide +kernel
theorem dX1_findFree_112 : decode cX1_findFree 112 = .ok (.iinc 6 1, 3) := by decide +kernel
theorem dX1_findFree_115 : decode cX1_findFree 115 = .ok (.goto (-83), 3) := by decide +kernel
theorem dX1_findFree_118 : decode cX1_findFree 118 = .ok (.iinc 4 1, 3) := by decide +kernel
theorem dX1_findFree_121 : decode cX1_findFree 121 = .ok (.goto (-107), 3) := by decide +kernel
theorem dX1_findFree_124 : decode cX1_findFree 124 = .ok (.iconst (-1), 1) := by decide +kernel
theorem dX1_findFree_125 : decode cX1_findFree 125 = .ok (.ireturn, 1) := by decide +kernel
theorem dX1_turnPath_0 : decode cX1_turnPath 0 = .ok (.iload_n 1, 1) := by decide +kernel
theorem dX1_turnPath_1 : decode cX1_turnPath 1 = .ok (.istore_n 2, 1) := by decide +kernel
theorem dX1_turnPath_2 : decode cX1_turnPath 2 = .ok (.iconst 0, 1) := by decide +kernel
theorem dX1_turnPath_3 : decode cX1_turnPath 3 = .ok (.istore_n 3, 1) := by decide +kernel
theorem dX1_turnPath_4 : decode cX1_turnPath 4 = .ok (.iload_n 3, 1) := by decide +kernel
theorem dX1_turnPath_5 : decode cX1_turnPath 5 = .ok (.aload_n 0, 1) := by decide +kernel
theorem dX1_turnPath_6 : decode cX1_turnPath 6 = .ok (.getfield 33, 3) := by decide +kernel
theorem dX1_turnPath_9 : decode cX1_turnPath 9 = .ok (.if_icmp .ge 50, 3) := by decide +kernel
theorem dX1_turnPath_12 : decode cX1_turnPath 12 = .ok (.iload_n 2, 1) := by decide +kernel
theorem dX1_turnPath_13 : decode cX1_turnPath 13 = .ok (.iconst (-1), 1) := by decide +kernel
theorem dX1_turnPath_14 : decode cX1_turnPath 14 = .ok (.if_icmp .eq 45, 3) := by decide +kernel
theorem dX1_turnPath_17 : decode cX1_turnPath 17 = .ok (.aload_n 0, 1) := by decide +kernel
theorem dX1_turnPath_18 : decode cX1_turnPath 18 = .ok (.getfield 21, 3) := by decide +kernel
theorem dX1_turnPath_21 : decode cX1_turnPath 21 = .ok (.iload_n 2, 1) := by decide +kernel
theorem dX1_turnPath_22 : decode cX1_turnPath 22 = .ok (.iaload, 1) := by decide +kernel
theorem dX1_turnPath_23 : decode cX1_turnPath 23 = .ok (.istore 4, 2) := by decide +kernel
theorem dX1_turnPath_25 : decode cX1_turnPath 25 = .ok (.aload_n 0, 1) := by decide +kernel
theorem dX1_turnPath_26 : decode cX1_turnPath 26 = .ok (.getfield 18, 3) := by decide +kernel
theorem dX1_turnPath_29 : decode cX1_turnPath 29 = .ok (.iload 4, 2) := by decide +kernel
theorem dX1_turnPath_31 : decode cX1_turnPath 31 = .ok (.iaload, 1) := by decide +kernel
theorem dX1_turnPath_32 : decode cX1_turnPath 32 = .ok (.istore 5, 2) := by decide +kernel
theorem dX1_turnPath_34 : decode cX1_turnPath 34 = .ok (.aload_n 0, 1) := by decide +kernel
theorem dX1_turnPath_35 : decode cX1_turnPath 35 = .ok (.getfield 15, 3) := by decide +kernel
theorem dX1_turnPath_38 : decode cX1_turnPath 38 = .ok (.iload_n 2, 1) := by decide +kernel
theorem dX1_turnPath_39 : decode cX1_turnPath 39 = .ok (.iload 4, 2) := by decide +kernel
theorem dX1_turnPath_41 : decode cX1_turnPath 41 = .ok (.iastore, 1) := by decide +kernel
theorem dX1_turnPath_42 : decode cX1_turnPath 42 = .ok (.aload_n 0, 1) := by decide +kernel
theorem dX1_turnPath_43 : decode cX1_turnPath 43 = .ok (.getfield 18, 3) := by decide +kernel
theorem dX1_turnPath_46 : decode cX1_turnPath 46 = .ok (.iload 4, 2) := by decide +kernel
theorem dX1_turnPath_48 : decode cX1_turnPath 48 = .ok (.iload_n 2, 1) := by decide +kernel
theorem dX1_turnPath_49 : decode cX1_turnPath 49 = .ok (.iastore, 1) := by decide +kernel
theorem dX1_turnPath_50 : decode cX1_turnPath 50 = .ok (.iload 5, 2) := by decide +kernel
theorem dX1_turnPath_52 : decode cX1_turnPath 52 = .ok (.istore_n 2, 1) := by decide +kernel
theorem dX1_turnPath_53 : decode cX1_turnPath 53 = .ok (.iinc 3 1, 3) := by decide +kernel
theorem dX1_turnPath_56 : decode cX1_turnPath 56 = .ok (.goto (-52), 3) := by decide +kernel
theorem dX1_turnPath_59 : decode cX1_turnPath 59 = .ok (.return_, 1) := by decide +kernel
theorem dX2_init_0 : decode cX2_init 0 = .ok (.aload_n 0, 1) := by decide +kernel
theorem dX2_init_1 : decode cX2_init 1 = .ok (.invokespecial 3, 3) := by decide +kernel
theorem dX2_init_4 : decode cX2_init 4 = .ok (.aload_n 0, 1) := by decide +kernel
theorem dX2_init_5 : decode cX2_init 5 = .ok (.bipush 6, 2) := by decide +kernel
theorem dX2_init_7 : decode cX2_init 7 = .ok (.newarray .int, 2) := by decide +kernel
theorem dX2_init_9 : decode cX2_init 9 = .ok (.putfield 9, 3) := by decide +kernel
theorem dX2_init_12 : decode cX2_init 12 = .ok (.aload_n 0, 1) := by decide +kernel
theorem dX2_init_13 : decode cX2_init 13 = .ok (.bipush 6, 2) := by decide +kernel
theorem dX2_init_15 : decode cX2_init 15 = .ok (.newarray .int, 2) := by decide +kernel
theorem dX2_init_17 : decode cX2_init 17 = .ok (.putfield 15, 3) := by decide +kernel
theorem dX2_init_20 : decode cX2_init 20 = .ok (.aload_n 0, 1) := by decide +kernel
theorem dX2_init_21 : decode cX2_init 21 = .ok (.new 18, 3) := by decide +kernel
theorem dX2_init_24 : decode cX2_init 24 = .ok (.dup, 1) := by decide +kernel
theorem dX2_init_25 : decode cX2_init 25 = .ok (.invokespecial 20, 3) := by decide +kernel
theorem dX2_init_28 : decode cX2_init 28 = .ok (.putfield 21, 3) := by decide +kernel
theorem dX2_init_31 : decode cX2_init 31 = .ok (.return_, 1) := by decide +kernel
theorem dX2_take_0 : decode cX2_take 0 = .ok (.aload_n 1, 1) := by decide +kernel
theorem dX2_take_1 : decode cX2_take 1 = .ok (.getfield 25, 3) := by decide +kernel
theorem dX2_take_4 : decode cX2_take 4 = .ok (.iconst 0, 1) := by decide +kernel
theorem dX2_take_5 : decode cX2_take 5 = .ok (.aload_n 0, 1) := by decide +kernel
theorem dX2_take_6 : decode cX2_take 6 = .ok (.getfield 9, 3) := by decide +kernel
theorem dX2_take_9 : decode cX2_take 9 = .ok (.iconst 0, 1) := by decide +kernel
theorem dX2_take_10 : decode cX2_take 10 = .ok (.bipush 6, 2) := by decide +kernel
theorem dX2_take_12 : decode cX2_take 12 = .ok (.invokestatic 30, 3) := by decide +kernel
theorem dX2_take_15 : decode cX2_take 15 = .ok (.aload_n 1, 1) := by decide +kernel
theorem dX2_take_16 : decode cX2_take 16 = .ok (.getfield 36, 3) := by decide +kernel
theorem dX2_take_19 : decode cX2_take 19 = .ok (.iconst 0, 1) := by decide +kernel
theorem dX2_take_20 : decode cX2_take 20 = .ok (.aload_n 0, 1) := by decide +kernel
theorem dX2_take_21 : decode cX2_take 21 = .ok (.getfield 15, 3) := by decide +kernel
theorem dX2_take_24 : decode cX2_take 24 = .ok (.iconst 0, 1) := by decide +kernel
theorem dX2_take_25 : decode cX2_take 25 = .ok (.bipush 6, 2) := by decide +kernel
theorem dX2_take_27 : decode cX2_take 27 = .ok (.invokestatic 30, 3) := by decide +kernel
theorem dX2_take_30 : decode cX2_take 30 = .ok (.aload_n 0, 1) := by decide +kernel
theorem dX2_take_31 : decode cX2_take 31 = .ok (.aload_n 1, 1) := by decide +kernel
theorem dX2_take_32 : decode cX2_take 32 = .ok (.getfield 39, 3) := by decide +kernel
theorem dX2_take_35 : decode cX2_take 35 = .ok (.iconst 4, 1) := by decide +kernel
theorem dX2_take_36 : decode cX2_take 36 = .ok (.iaload, 1) := by decide +kernel
theorem dX2_take_37 : decode cX2_take 37 = .ok (.putfield 42, 3) := by decide +kernel
theorem dX2_take_40 : decode cX2_take 40 = .ok (.aload_n 0, 1) := by decide +kernel
theorem dX2_take_41 : decode cX2_take 41 = .ok (.aload_n 1, 1) := by decide +kernel
theorem dX2_take_42 : decode cX2_take 42 = .ok (.getfield 39, 3) := by decide +kernel
theorem dX2_take_45 : decode cX2_take 45 = .ok (.iconst 5, 1) := by decide +kernel
theorem dX2_take_46 : decode cX2_take 46 = .ok (.iaload, 1) := by decide +kernel
theorem dX2_take_47 : decode cX2_take 47 = .ok (.putfield 46, 3) := by decide +kernel
theorem dX2_take_50 : decode cX2_take 50 = .ok (.aload_n 0, 1) := by decide +kernel
theorem dX2_take_51 : decode cX2_take 51 = .ok (.getfield 21, 3) := by decide +kernel
theorem dX2_take_54 : decode cX2_take 54 = .ok (.aload_n 2, 1) := by decide +kernel
theorem dX2_take_55 : decode cX2_take 55 = .ok (.invokevirtual 49, 3) := by decide +kernel
theorem dX2_take_58 : decode cX2_take 58 = .ok (.aload_n 0, 1) := by decide +kernel
theorem dX2_take_59 : decode cX2_take 59 = .ok (.iconst 1, 1) := by decide +kernel
theorem dX2_take_60 : decode cX2_take 60 = .ok (.putfield 53, 3) := by decide +kernel
theorem dX2_take_63 : decode cX2_take 63 = .ok (.return_, 1) := by decide +kernel
theorem dX2_give_0 : decode cX2_give 0 = .ok (.aload_n 0, 1) := by decide +kernel
theorem dX2_give_1 : decode cX2_give 1 = .ok (.getfield 9, 3) := by decide +kernel
theorem dX2_give_4 : decode cX2_give 4 = .ok (.iconst 0, 1) := by decide +kernel
theorem dX2_give_5 : decode cX2_give 5 = .ok (.aload_n 1, 1) := by decide +kernel
theorem dX2_give_6 : decode cX2_give 6 = .ok (.getfield 25, 3) := by decide +kernel
theorem dX2_give_9 : decode cX2_give 9 = .ok (.iconst 0, 1) := by decide +kernel
theorem dX2_give_10 : decode cX2_give 10 = .ok (.bipush 6, 2) := by decide +kernel
theorem dX2_give_12 : decode cX2_give 12 = .ok (.invokestatic 30, 3) := by decide +kernel
theorem dX2_give_15 : decode cX2_give 15 = .ok (.aload_n 0, 1) := by decide +kernel
theorem dX2_give_16 : decode cX2_give 16 = .ok (.getfield 15, 3) := by decide +kernel
theorem dX2_give_19 : decode cX2_give 19 = .ok (.iconst 0, 1) := by decide +kernel
theorem dX2_give_20 : decode cX2_give 20 = .ok (.aload_n 1, 1) := by decide +kernel
theorem dX2_give_21 : decode cX2_give 21 = .ok (.getfield 36, 3) := by decide +kernel
theorem dX2_give_24 : decode cX2_give 24 = .ok (.iconst 0, 1) := by decide +kernel
theorem dX2_give_25 : decode cX2_give 25 = .ok (.bipush 6, 2) := by decide +kernel
theorem dX2_give_27 : decode cX2_give 27 = .ok (.invokestatic 30, 3) := by decide +kernel
theorem dX2_give_30 : decode cX2_give 30 = .ok (.aload_n 1, 1) := by decide +kernel
theorem dX2_give_31 : decode cX2_give 31 = .ok (.getfield 39, 3) := by decide +kernel
theorem dX2_give_34 : decode cX2_give 34 = .ok (.iconst 4, 1) := by decide +kernel
theorem dX2_give_35 : decode cX2_give 35 = .ok (.aload_n 0, 1) := by decide +kernel
theorem dX2_give_36 : decode cX2_give 36 = .ok (.getfield 42, 3) := by decide +kernel
theorem dX2_give_39 : decode cX2_give 39 = .ok (.iastore, 1) := by decide +kernel
theorem dX2_give_40 : decode cX2_give 40 = .ok (.aload_n 1, 1) := by decide +kernel
theorem dX2_give_41 : decode cX2_give 41 = .ok (.getfield 39, 3) := by decide +kernel
theorem dX2_give_44 : decode cX2_give 44 = .ok (.iconst 5, 1) := by decide +kernel
theorem dX2_give_45 : decode cX2_give 45 = .ok (.aload_n 0, 1) := by decide +kernel
theorem dX2_give_46 : decode cX2_give 46 = .ok (.getfield 46, 3) := by decide +kernel
theorem dX2_give_49 : decode cX2_give 49 = .ok (.iastore, 1) := by decide +kernel
theorem dX2_give_50 : decode cX2_give 50 = .ok (.aload_n 2, 1) := by decide +kernel
theorem dX2_give_51 : decode cX2_give 51 = .ok (.aload_n 0, 1) := by decide +kernel
theorem dX2_give_52 : decode cX2_give 52 = .ok (.getfield 21, 3) := by decide +kernel
theorem dX2_give_55 : decode cX2_give 55 = .ok (.invokevirtual 49, 3) := by decide +kernel
theorem dX2_give_58 : decode cX2_give 58 = .ok (.return_, 1) := by decide +kernel
theorem dX3_init_0 : decode cX3_init 0 = .ok (.aload_n 0, 1) := by decide +kernel
theorem dX3_init_1 : decode cX3_init 1 = .ok (.invokespecial 3, 3) := by decide +kernel
theorem dX3_init_4 : decode cX3_init 4 = .ok (.aload_n 0, 1) := by decide +kernel
theorem dX3_init_5 : decode cX3_init 5 = .ok (.bipush 6, 2) := by decide +kernel
theorem dX3_init_7 : decode cX3_init 7 = .ok (.newarray .int, 2) := by decide +kernel
theorem dX3_init_9 : decode cX3_init 9 = .ok (.putfield 9, 3) := by decide +kernel
theorem dX3_init_12 : decode cX3_init 12 = .ok (.aload_n 0, 1) := by decide +kernel
theorem dX3_init_13 : decode cX3_init 13 = .ok (.bipush 6, 2) := by decide +kernel
theorem dX3_init_15 : decode cX3_init 15 = .ok (.newarray .int, 2) := by decide +kernel
theorem dX3_init_17 : decode cX3_init 17 = .ok (.putfield 15, 3) := by decide +kernel
theorem dX3_init_20 : decode cX3_init 20 = .ok (.aload_n 0, 1) := by decide +kernel
theorem dX3_init_21 : decode cX3_init 21 = .ok (.bipush 6, 2) := by decide +kernel
theorem dX3_init_23 : decode cX3_init 23 = .ok (.newarray .int, 2) := by decide +kernel
theorem dX3_init_25 : decode cX3_init 25 = .ok (.putfield 18, 3) := by decide +kernel
theorem dX3_init_28 : decode cX3_init 28 = .ok (.aload_n 0, 1) := by decide +kernel
theorem dX3_init_29 : decode cX3_init 29 = .ok (.iconst 3, 1) := by decide +kernel
theorem dX3_init_30 : decode cX3_init 30 = .ok (.newarray .int, 2) := by decide +kernel
theorem dX3_init_32 : decode cX3_init 32 = .ok (.putfield 21, 3) := by decide +kernel
theorem dX3_init_35 : decode cX3_init 35 = .ok (.aload_n 0, 1) := by decide +kernel
theorem dX3_init_36 : decode cX3_init 36 = .ok (.bipush 12, 2) := by decide +kernel
theorem dX3_init_38 : decode cX3_init 38 = .ok (.newarray .int, 2) := by decide +kernel
theorem dX3_init_40 : decode cX3_init 40 = .ok (.putfield 24, 3) := by decide +kernel
theorem dX3_init_43 : decode cX3_init 43 = .ok (.aload_n 0, 1) := by decide +kernel
theorem dX3_init_44 : decode cX3_init 44 = .ok (.bipush 12, 2) := by decide +kernel
theorem dX3_init_46 : decode cX3_init 46 = .ok (.newarray .int, 2) := by decide +kernel
theorem dX3_init_48 : decode cX3_init 48 = .ok (.putfield 27, 3) := by decide +kernel
theorem dX3_init_51 : decode cX3_init 51 = .ok (.aload_n 0, 1) := by decide +kernel
theorem dX3_init_52 : decode cX3_init 52 = .ok (.invokevirtual 30, 3) := by decide +kernel
theorem dX3_init_55 : decode cX3_init 55 = .ok (.return_, 1) := by decide +kernel
theorem dX3_clear_0 : decode cX3_clear 0 = .ok (.aload_n 0, 1) := by decide +kernel
theorem dX3_clear_1 : decode cX3_clear 1 = .ok (.getfield 9, 3) := by decide +kernel
theorem dX3_clear_4 : decode cX3_clear 4 = .ok (.iconst 0, 1) := by decide +kernel
theorem dX3_clear_5 : decode cX3_clear 5 = .ok (.bipush 9, 2) := by decide +kernel
theorem dX3_clear_7 : decode cX3_clear 7 = .ok (.iastore, 1) := by decide +kernel
theorem dX3_clear_8 : decode cX3_clear 8 = .ok (.aload_n 0, 1) := by decide +kernel
theorem dX3_clear_9 : decode cX3_clear 9 = .ok (.getfield 9, 3) := by decide +kernel
theorem dX3_clear_12 : decode cX3_clear 12 = .ok (.iconst 1, 1) := by decide +kernel
theorem dX3_clear_13 : decode cX3_clear 13 = .ok (.bipush 9, 2) := by decide +kernel
theorem dX3_clear_15 : decode cX3_clear 15 = .ok (.iastore, 1) := by decide +kernel
theorem dX3_clear_16 : decode cX3_clear 16 = .ok (.aload_n 0, 1) := by decide +kernel
theorem dX3_clear_17 : decode cX3_clear 17 = .ok (.getfield 9, 3) := by decide +kernel
theorem dX3_clear_20 : decode cX3_clear 20 = .ok (.iconst 2, 1) := by decide +kernel
theorem dX3_clear_21 : decode cX3_clear 21 = .ok (.iconst 2, 1) := by decide +kernel
theorem dX3_clear_22 : decode cX3_clear 22 = .ok (.iastore, 1) := by decide +kernel
theorem dX3_clear_23 : decode cX3_clear 23 = .ok (.aload_n 0, 1) := by decide +kernel
theorem dX3_clear_24 : decode cX3_clear 24 = .ok (.getfield 9, 3) := by decide +kernel
theorem dX3_clear_27 : decode cX3_clear 27 = .ok (.iconst 3, 1) := by decide +kernel
theorem dX3_clear_28 : decode cX3_clear 28 = .ok (.iconst 3, 1) := by decide +kernel
theorem dX3_clear_29 : decode cX3_clear 29 = .ok (.iastore, 1) := by decide +kernel
theorem dX3_clear_30 : decode cX3_clear 30 = .ok (.aload_n 0, 1) := by decide +kernel
theorem dX3_clear_31 : decode cX3_clear 31 = .ok (.getfield 9, 3) := by decide +kernel
theorem dX3_clear_34 : decode cX3_clear 34 = .ok (.iconst 4, 1) := by decide +kernel
theorem dX3_clear_35 : decode cX3_clear 35 = .ok (.iconst 1, 1) := by decide +kernel
theorem dX3_clear_36 : decode cX3_clear 36 = .ok (.iastore, 1) := by decide +kernel
theorem dX3_clear_37 : decode cX3_clear 37 = .ok (.aload_n 0, 1) := by decide +kernel
theorem dX3_clear_38 : decode cX3_clear 38 = .ok (.getfield 9, 3) := by decide +kernel
theorem dX3_clear_41 : decode cX3_clear 41 = .ok (.iconst 5, 1) := by decide +kernel
theorem dX3_clear_42 : decode cX3_clear 42 = .ok (.iconst 1, 1) := by decide +kernel
theorem dX3_clear_43 : decode cX3_clear 43 = .ok (.iastore, 1) := by decide +kernel
theorem dX3_clear_44 : decode cX3_clear 44 = .ok (.aload_n 0, 1) := by decide +kernel
theorem dX3_clear_45 : decode cX3_clear 45 = .ok (.iconst 0, 1) := by decide +kernel
theorem dX3_clear_46 : decode cX3_clear 46 = .ok (.putfield 33, 3) := by decide +kernel
theorem dX3_clear_49 : decode cX3_clear 49 = .ok (.aload_n 0, 1) := by decide +kernel
theorem dX3_clear_50 : decode cX3_clear 50 = .ok (.iconst 0, 1) := by decide +kernel
theorem dX3_clear_51 : decode cX3_clear 51 = .ok (.putfield 37, 3) := by decide +kernel
theorem dX3_clear_54 : decode cX3_clear 54 = .ok (.aload_n 0, 1) := by decide +kernel
theorem dX3_clear_55 : decode cX3_clear 55 = .ok (.iconst 0, 1) := by decide +kernel
theorem dX3_clear_56 : decode cX3_clear 56 = .ok (.putfield 40, 3) := by decide +kernel
theorem dX3_clear_59 : decode cX3_clear 59 = .ok (.return_, 1) := by decide +kernel
theorem dX3_hasCell_0 : decode cX3_hasCell 0 = .ok (.iload_n 1, 1) := by decide +kernel
theorem dX3_hasCell_1 : decode cX3_hasCell 1 = .ok (.bipush 81, 2) := by decide +kernel
theorem dX3_hasCell_3 : decode cX3_hasCell 3 = .ok (.invokestatic 43, 3) := by decide +kernel
theorem dX3_hasCell_6 : decode cX3_hasCell 6 = .ok (.ifCond .eq 33, 3) := by decide +kernel
theorem dX3_hasCell_9 : decode cX3_hasCell 9 = .ok (.iload_n 1, 1) := by decide +kernel
theorem dX3_hasCell_10 : decode cX3_hasCell 10 = .ok (.bipush 9, 2) := by decide +kernel
theorem dX3_hasCell_12 : decode cX3_hasCell 12 = .ok (.irem, 1) := by decide +kernel
theorem dX3_hasCell_13 : decode cX3_hasCell 13 = .ok (.aload_n 0, 1) := by decide +kernel
theorem dX3_hasCell_14 : decode cX3_hasCell 14 = .ok (.getfield 9, 3) := by decide +kernel
theorem dX3_hasCell_17 : decode cX3_hasCell 17 = .ok (.iconst 0, 1) := by decide +kernel
theorem dX3_hasCell_18 : decode cX3_hasCell 18 = .ok (.iaload, 1) := by decide +kernel
theorem dX3_hasCell_19 : decode cX3_hasCell 19 = .ok (.if_icmp .ge 20, 3) := by decide +kernel
theorem dX3_hasCell_22 : decode cX3_hasCell 22 = .ok (.iload_n 1, 1) := by decide +kernel
theorem dX3_hasCell_23 : decode cX3_hasCell 23 = .ok (.bipush 9, 2) := by decide +kernel
theorem dX3_hasCell_25 : decode cX3_hasCell 25 = .ok (.idiv, 1) := by decide +kernel
theorem dX3_hasCell_26 : decode cX3_hasCell 26 = .ok (.aload_n 0, 1) := by decide +kernel
theorem dX3_hasCell_27 : decode cX3_hasCell 27 = .ok (.getfield 9, 3) := by decide +kernel
theorem dX3_hasCell_30 : decode cX3_hasCell 30 = .ok (.iconst 1, 1) := by decide +kernel
theorem dX3_hasCell_31 : decode cX3_hasCell 31 = .ok (.iaload, 1) := by decide +kernel
theorem dX3_hasCell_32 : decode cX3_hasCell 32 = .ok (.if_icmp .ge 7, 3) := by decide +kernel
theorem dX3_hasCell_35 : decode cX3_hasCell 35 = .ok (.iconst 1, 1) := by decide +kernel
theorem dX3_hasCell_36 : decode cX3_hasCell 36 = .ok (.goto 4, 3) := by decide +kernel
theorem dX3_hasCell_39 : decode cX3_hasCell 39 = .ok (.iconst 0, 1) := by decide +kernel
theorem dX3_hasCell_40 : decode cX3_hasCell 40 = .ok (.ireturn, 1) := by decide +kernel
theorem dX3_hasTower_0 : decode cX3_hasTower 0 = .ok (.iload_n 1, 1) := by decide +kernel
theorem dX3_hasTower_1 : decode cX3_hasTower 1 = .ok (.aload_n 0, 1) := by decide +kernel
theorem dX3_hasTower_2 : decode cX3_hasTower 2 = .ok (.getfield 33, 3) := by decide +kernel
theorem dX3_hasTower_5 : decode cX3_hasTower 5 = .ok (.invokestatic 43, 3) := by decide +kernel
theorem dX3_hasTower_8 : decode cX3_hasTower 8 = .ok (.ireturn, 1) := by decide +kernel
theorem dX3_hasPipe_0 : decode cX3_hasPipe 0 = .ok (.aload_n 0, 1) := by decide +kernel
theorem dX3_hasPipe_1 : decode cX3_hasPipe 1 = .ok (.getfield 18, 3) := by decide +kernel
theorem dX3_hasPipe_4 : decode cX3_hasPipe 4 = .ok (.iload_n 1, 1) := by decide +kernel
theorem dX3_hasPipe_5 : decode cX3_hasPipe 5 = .ok (.iaload, 1) := by decide +kernel
theorem dX3_hasPipe_6 : decode cX3_hasPipe 6 = .ok (.iload_n 2, 1) := by decide +kernel
theorem dX3_hasPipe_7 : decode cX3_hasPipe 7 = .ok (.ishr, 1) := by decide +kernel
theorem dX3_hasPipe_8 : decode cX3_hasPipe 8 = .ok (.iconst 1, 1) := by decide +kernel
theorem dX3_hasPipe_9 : decode cX3_hasPipe 9 = .ok (.iand, 1) := by decide +kernel
theorem dX3_hasPipe_10 : decode cX3_hasPipe 10 = .ok (.ifCond .eq 7, 3) := by decide +kernel
theorem dX3_hasPipe_13 : decode cX3_hasPipe 13 = .ok (.iconst 1, 1) := by decide +kernel
theorem dX3_hasPipe_14 : decode cX3_hasPipe 14 = .ok (.goto 4, 3) := by decide +kernel
theorem dX3_hasPipe_17 : decode cX3_hasPipe 17 = .ok (.iconst 0, 1) := by decide +kernel
theorem dX3_hasPipe_18 : decode cX3_hasPipe 18 = .ok (.ireturn, 1) := by decide +kernel
theorem dX3_standsOnCells_0 : decode cX3_standsOnCells 0 = .ok (.iconst 0, 1) := by decide +kernel
theorem dX3_standsOnCells_1 : decode cX3_standsOnCells 1 = .ok (.istore_n 1, 1) := by decide +kernel
theorem dX3_standsOnCells_2 : decode cX3_standsOnCells 2 = .ok (.iload_n 1, 1) := by decide +kernel
theorem dX3_standsOnCells_3 : decode cX3_standsOnCells 3 = .ok (.aload_n 0, 1) := by decide +kernel
theorem dX3_standsOnCells_4 : decode cX3_standsOnCells 4 = .ok (.getfield 33, 3) := by decide +kernel
theorem dX3_standsOnCells_7 : decode cX3_standsOnCells 7 = .ok (.if_icmp .ge 24, 3) := by decide +kernel
theorem dX3_standsOnCells_10 : decode cX3_standsOnCells 10 = .ok (.aload_n 0, 1) := by decide +kernel
theorem dX3_standsOnCells_11 : decode cX3_standsOnCells 11 = .ok (.aload_n 0, 1) := by decide +kernel
theorem dX3_standsOnCells_12 : decode cX3_standsOnCells 12 = .ok (.getfield 15, 3) := by decide +kernel
theorem dX3_standsOnCells_15 : decode cX3_standsOnCells 15 = .ok (.iload_n 1, 1) := by decide +kernel
theorem dX3_standsOnCells_16 : decode cX3_standsOnCells 16 = .ok (.iaload, 1) := by decide +kernel
theorem dX3_standsOnCells_17 : decode cX3_standsOnCells 17 = .ok (.invokevirtual 47, 3) := by decide +kernel
theorem dX3_standsOnCells_20 : decode cX3_standsOnCells 20 = .ok (.ifCond .ne 5, 3) := by decide +kernel
theorem dX3_standsOnCells_23 : decode cX3_standsOnCells 23 = .ok (.iconst 0, 1) := by decide +kernel
theorem dX3_standsOnCells_24 : decode cX3_standsOnCells 24 = .ok (.ireturn, 1) := by decide +kernel
theorem dX3_standsOnCells_25 : decode cX3_standsOnCells 25 = .ok (.iinc 1 1, 3) := by decide +kernel
theorem dX3_standsOnCells_28 : decode cX3_standsOnCells 28 = .ok (.goto (-26), 3) := by decide +kernel
theorem dX3_standsOnCells_31 : decode cX3_standsOnCells 31 = .ok (.iconst 0, 1) := by decide +kernel
theorem dX3_standsOnCells_32 : decode cX3_standsOnCells 32 = .ok (.istore_n 1, 1) := by decide +kernel
theorem dX3_standsOnCells_33 : decode cX3_standsOnCells 33 = .ok (.iload_n 1, 1) := by decide +kernel
theorem dX3_standsOnCells_34 : decode cX3_standsOnCells 34 = .ok (.aload_n 0, 1) := by decide +kernel
theorem dX3_standsOnCells_35 : decode cX3_standsOnCells 35 = .ok (.getfield 37, 3) := by decide +kernel
theorem dX3_standsOnCells_38 : decode cX3_standsOnCells 38 = .ok (.if_icmp .ge 24, 3) := by decide +kernel
theorem dX3_standsOnCells_41 : decode cX3_standsOnCells 41 = .ok (.aload_n 0, 1) := by decide +kernel
theorem dX3_standsOnCells_42 : decode cX3_standsOnCells 42 = .ok (.aload_n 0, 1) := by decide +kernel
theorem dX3_standsOnCells_43 : decode cX3_standsOnCells 43 = .ok (.getfield 21, 3) := by decide +kernel
theorem dX3_standsOnCells_46 : decode cX3_standsOnCells 46 = .ok (.iload_n 1, 1) := by decide +kernel
theorem dX3_standsOnCells_47 : decode cX3_standsOnCells 47 = .ok (.iaload, 1) := by decide +kernel
theorem dX3_standsOnCells_48 : decode cX3_standsOnCells 48 = .ok (.invokevirtual 47, 3) := by decide +kernel
theorem dX3_standsOnCells_51 : decode cX3_standsOnCells 51 = .ok (.ifCond .ne 5, 3) := by decide +kernel
theorem dX3_standsOnCells_54 : decode cX3_standsOnCells 54 = .ok (.iconst 0, 1) := by decide +kernel
theorem dX3_standsOnCells_55 : decode cX3_standsOnCells 55 = .ok (.ireturn, 1) := by decide +kernel
theorem dX3_standsOnCells_56 : decode cX3_standsOnCells 56 = .ok (.iinc 1 1, 3) := by decide +kernel
theorem dX3_standsOnCells_59 : decode cX3_standsOnCells 59 = .ok (.goto (-26), 3) := by decide +kernel
theorem dX3_standsOnCells_62 : decode cX3_standsOnCells 62 = .ok (.iconst 1, 1) := by decide +kernel
theorem dX3_standsOnCells_63 : decode cX3_standsOnCells 63 = .ok (.ireturn, 1) := by decide +kernel
theorem dX3_howFar_0 : decode cX3_howFar 0 = .ok (.iload_n 0, 1) := by decide +kernel
theorem dX3_howFar_1 : decode cX3_howFar 1 = .ok (.bipush 9, 2) := by decide +kernel
theorem dX3_howFar_3 : decode cX3_howFar 3 = .ok (.irem, 1) := by decide +kernel
theorem dX3_howFar_4 : decode cX3_howFar 4 = .ok (.iload_n 1, 1) := by decide +kernel
theorem dX3_howFar_5 : decode cX3_howFar 5 = .ok (.bipush 9, 2) := by decide +kernel
theorem dX3_howFar_7 : decode cX3_howFar 7 = .ok (.irem, 1) := by decide +kernel
theorem dX3_howFar_8 : decode cX3_howFar 8 = .ok (.isub, 1) := by decide +kernel
theorem dX3_howFar_9 : decode cX3_howFar 9 = .ok (.invokestatic 51, 3) := by decide +kernel
theorem dX3_howFar_12 : decode cX3_howFar 12 = .ok (.iload_n 0, 1) := by decide +kernel
theorem dX3_howFar_13 : decode cX3_howFar 13 = .ok (.bipush 9, 2) := by decide +kernel
theorem dX3_howFar_15 : decode cX3_howFar 15 = .ok (.idiv, 1) := by decide +kernel
theorem dX3_howFar_16 : decode cX3_howFar 16 = .ok (.iload_n 1, 1) := by decide +kernel
theorem dX3_howFar_17 : decode cX3_howFar 17 = .ok (.bipush 9, 2) := by decide +kernel
theorem dX3_howFar_19 : decode cX3_howFar 19 = .ok (.idiv, 1) := by decide +kernel
theorem dX3_howFar_20 : decode cX3_howFar 20 = .ok (.isub, 1) := by decide +kernel
theorem dX3_howFar_21 : decode cX3_howFar 21 = .ok (.invokestatic 51, 3) := by decide +kernel
theorem dX3_howFar_24 : decode cX3_howFar 24 = .ok (.invokestatic 57, 3) := by decide +kernel
theorem dX3_howFar_27 : decode cX3_howFar 27 = .ok (.ireturn, 1) := by decide +kernel
theorem dX3_sound_0 : decode cX3_sound 0 = .ok (.iload_n 2, 1) := by decide +kernel
theorem dX3_sound_1 : decode cX3_sound 1 = .ok (.bipush 9, 2) := by decide +kernel
theorem dX3_sound_3 : decode cX3_sound 3 = .ok (.irem, 1) := by decide +kernel
theorem dX3_sound_4 : decode cX3_sound 4 = .ok (.iload_n 1, 1) := by decide +kernel
theorem dX3_sound_5 : decode cX3_sound 5 = .ok (.bipush 9, 2) := by decide +kernel
theorem dX3_sound_7 : decode cX3_sound 7 = .ok (.irem, 1) := by decide +kernel
theorem dX3_sound_8 : decode cX3_sound 8 = .ok (.isub, 1) := by decide +kernel
theorem dX3_sound_9 : decode cX3_sound 9 = .ok (.aload_n 0, 1) := by decide +kernel
theorem dX3_sound_10 : decode cX3_sound 10 = .ok (.getfield 9, 3) := by decide +kernel
theorem dX3_sound_13 : decode cX3_sound 13 = .ok (.iconst 4, 1) := by decide +kernel
theorem dX3_sound_14 : decode cX3_sound 14 = .ok (.iaload, 1) := by decide +kernel
theorem dX3_sound_15 : decode cX3_sound 15 = .ok (.invokestatic 61, 3) := by decide +kernel
theorem dX3_sound_18 : decode cX3_sound 18 = .ok (.iload_n 2, 1) := by decide +kernel
theorem dX3_sound_19 : decode cX3_sound 19 = .ok (.bipush 9, 2) := by decide +kernel
theorem dX3_sound_21 : decode cX3_sound 21 = .ok (.idiv, 1) := by decide +kernel
theorem dX3_sound_22 : decode cX3_sound 22 = .ok (.iload_n 1, 1) := by decide +kernel
theorem dX3_sound_23 : decode cX3_sound 23 = .ok (.bipush 9, 2) := by decide +kernel
theorem dX3_sound_25 : decode cX3_sound 25 = .ok (.idiv, 1) := by decide +kernel
theorem dX3_sound_26 : decode cX3_sound 26 = .ok (.isub, 1) := by decide +kernel
theorem dX3_sound_27 : decode cX3_sound 27 = .ok (.aload_n 0, 1) := by decide +kernel
theorem dX3_sound_28 : decode cX3_sound 28 = .ok (.getfield 9, 3) := by decide +kernel
theorem dX3_sound_31 : decode cX3_sound 31 = .ok (.iconst 5, 1) := by decide +kernel
theorem dX3_sound_32 : decode cX3_sound 32 = .ok (.iaload, 1) := by decide +kernel
theorem dX3_sound_33 : decode cX3_sound 33 = .ok (.invokestatic 61, 3) := by decide +kernel
theorem dX3_sound_36 : decode cX3_sound 36 = .ok (.iadd, 1) := by decide +kernel
theorem dX3_sound_37 : decode cX3_sound 37 = .ok (.istore_n 3, 1) := by decide +kernel
theorem dX3_sound_38 : decode cX3_sound 38 = .ok (.aload_n 0, 1) := by decide +kernel
theorem dX3_sound_39 : decode cX3_sound 39 = .ok (.getfield 9, 3) := by decide +kernel
theorem dX3_sound_42 : decode cX3_sound 42 = .ok (.iconst 2, 1) := by decide +kernel
theorem dX3_sound_43 : decode cX3_sound 43 = .ok (.iaload, 1) := by decide +kernel
theorem dX3_sound_44 : decode cX3_sound 44 = .ok (.iload_n 1, 1) := by decide +kernel
theorem dX3_sound_45 : decode cX3_sound 45 = .ok (.iload_n 2, 1) := by decide +kernel
theorem dX3_sound_46 : decode cX3_sound 46 = .ok (.invokestatic 64, 3) := by decide +kernel
theorem dX3_sound_49 : decode cX3_sound 49 = .ok (.imul, 1) := by decide +kernel
theorem dX3_sound_50 : decode cX3_sound 50 = .ok (.iload_n 3, 1) := by decide +kernel
theorem dX3_sound_51 : decode cX3_sound 51 = .ok (.iadd, 1) := by decide +kernel
theorem dX3_sound_52 : decode cX3_sound 52 = .ok (.ireturn, 1) := by decide +kernel
theorem dX3_soundOf_0 : decode cX3_soundOf 0 = .ok (.aload_n 0, 1) := by decide +kernel
theorem dX3_soundOf_1 : decode cX3_soundOf 1 = .ok (.aload_n 0, 1) := by decide +kernel
theorem dX3_soundOf_2 : decode cX3_soundOf 2 = .ok (.getfield 15, 3) := by decide +kernel
theorem dX3_soundOf_5 : decode cX3_soundOf 5 = .ok (.iload_n 1, 1) := by decide +kernel
theorem dX3_soundOf_6 : decode cX3_soundOf 6 = .ok (.iaload, 1) := by decide +kernel
theorem dX3_soundOf_7 : decode cX3_soundOf 7 = .ok (.iload_n 2, 1) := by decide +kernel
theorem dX3_soundOf_8 : decode cX3_soundOf 8 = .ok (.invokevirtual 67, 3) := by decide +kernel
theorem dX3_soundOf_11 : decode cX3_soundOf 11 = .ok (.ireturn, 1) := by decide +kernel
theorem dX3_against_0 : decode cX3_against 0 = .ok (.iconst 0, 1) := by decide +kernel
theorem dX3_against_1 : decode cX3_against 1 = .ok (.iload_n 0, 1) := by decide +kernel
theorem dX3_against_2 : decode cX3_against 2 = .ok (.iconst 1, 1) := by decide +kernel
theorem dX3_against_3 : decode cX3_against 3 = .ok (.iload_n 1, 1) := by decide +kernel
theorem dX3_against_4 : decode cX3_against 4 = .ok (.isub, 1) := by decide +kernel
theorem dX3_against_5 : decode cX3_against 5 = .ok (.imul, 1) := by decide +kernel
theorem dX3_against_6 : decode cX3_against 6 = .ok (.invokestatic 57, 3) := by decide +kernel
theorem dX3_against_9 : decode cX3_against 9 = .ok (.ireturn, 1) := by decide +kernel
theorem dX3_psalmTones_0 : decode cX3_psalmTones 0 = .ok (.iconst 0, 1) := by decide +kernel
theorem dX3_psalmTones_1 : decode cX3_psalmTones 1 = .ok (.istore_n 1, 1) := by decide +kernel
theorem dX3_psalmTones_2 : decode cX3_psalmTones 2 = .ok (.iconst 0, 1) := by decide +kernel
theorem dX3_psalmTones_3 : decode cX3_psalmTones 3 = .ok (.istore_n 2, 1) := by decide +kernel
theorem dX3_psalmTones_4 : decode cX3_psalmTones 4 = .ok (.iload_n 2, 1) := by decide +kernel
theorem dX3_psalmTones_5 : decode cX3_psalmTones 5 = .ok (.aload_n 0, 1) := by decide +kernel
theorem dX3_psalmTones_6 : decode cX3_psalmTones 6 = .ok (.getfield 40, 3) := by decide +kernel
theorem dX3_psalmTones_9 : decode cX3_psalmTones 9 = .ok (.if_icmp .ge 20, 3) := by decide +kernel
theorem dX3_psalmTones_12 : decode cX3_psalmTones 12 = .ok (.iload_n 1, 1) := by decide +kernel
theorem dX3_psalmTones_13 : decode cX3_psalmTones 13 = .ok (.iconst 1, 1) := by decide +kernel
theorem dX3_psalmTones_14 : decode cX3_psalmTones 14 = .ok (.aload_n 0, 1) := by decide +kernel
theorem dX3_psalmTones_15 : decode cX3_psalmTones 15 = .ok (.getfield 27, 3) := by decide +kernel
theorem dX3_psalmTones_18 : decode cX3_psalmTones 18 = .ok (.iload_n 2, 1) := by decide +kernel
theorem dX3_psalmTones_19 : decode cX3_psalmTones 19 = .ok (.iaload, 1) := by decide +kernel
theorem dX3_psalmTones_20 : decode cX3_psalmTones 20 = .ok (.ishl, 1) := by decide +kernel
theorem dX3_psalmTones_21 : decode cX3_psalmTones 21 = .ok (.ior, 1) := by decide +kernel
theorem dX3_psalmTones_22 : decode cX3_psalmTones 22 = .ok (.istore_n 1, 1) := by decide +kernel
theorem dX3_psalmTones_23 : decode cX3_psalmTones 23 = .ok (.iinc 2 1, 3) := by decide +kernel
theorem dX3_psalmTones_26 : decode cX3_psalmTones 26 = .ok (.goto (-22), 3) := by decide +kernel
theorem dX3_psalmTones_29 : decode cX3_psalmTones 29 = .ok (.iload_n 1, 1) := by decide +kernel
theorem dX3_psalmTones_30 : decode cX3_psalmTones 30 = .ok (.ireturn, 1) := by decide +kernel
theorem dX3_pipesOfSet_0 : decode cX3_pipesOfSet 0 = .ok (.iconst 0, 1) := by decide +kernel
theorem dX3_pipesOfSet_1 : decode cX3_pipesOfSet 1 = .ok (.istore_n 2, 1) := by decide +kernel
theorem dX3_pipesOfSet_2 : decode cX3_pipesOfSet 2 = .ok (.iconst 0, 1) := by decide +kernel
theorem dX3_pipesOfSet_3 : decode cX3_pipesOfSet 3 = .ok (.istore_n 3, 1) := by decide +kernel
theorem dX3_pipesOfSet_4 : decode cX3_pipesOfSet 4 = .ok (.iload_n 3, 1) := by decide +kernel
theorem dX3_pipesOfSet_5 : decode cX3_pipesOfSet 5 = .ok (.aload_n 0, 1) := by decide +kernel
theorem dX3_pipesOfSet_6 : decode cX3_pipesOfSet 6 = .ok (.getfield 33, 3) := by decide +kernel
theorem dX3_pipesOfSet_9 : decode cX3_pipesOfSet 9 = .ok (.if_icmp .ge 26, 3) := by decide +kernel
theorem dX3_pipesOfSet_12 : decode cX3_pipesOfSet 12 = .ok (.iload_n 1, 1) := by decide +kernel
theorem dX3_pipesOfSet_13 : decode cX3_pipesOfSet 13 = .ok (.iload_n 3, 1) := by decide +kernel
theorem dX3_pipesOfSet_14 : decode cX3_pipesOfSet 14 = .ok (.ishr, 1) := by decide +kernel
theorem dX3_pipesOfSet_15 : decode cX3_pipesOfSet 15 = .ok (.iconst 1, 1) := by decide +kernel
theorem dX3_pipesOfSet_16 : decode cX3_pipesOfSet 16 = .ok (.iand, 1) := by decide +kernel
theorem dX3_pipesOfSet_17 : decode cX3_pipesOfSet 17 = .ok (.ifCond .eq 12, 3) := by decide +kernel
theorem dX3_pipesOfSet_20 : decode cX3_pipesOfSet 20 = .ok (.iload_n 2, 1) := by decide +kernel
theorem dX3_pipesOfSet_21 : decode cX3_pipesOfSet 21 = .ok (.aload_n 0, 1) := by decide +kernel
theorem dX3_pipesOfSet_22 : decode cX3_pipesOfSet 22 = .ok (.getfield 18, 3) := by decide +kernel
theorem dX3_pipesOfSet_25 : decode cX3_pipesOfSet 25 = .ok (.iload_n 3, 1) := by decide +kernel
theorem dX3_pipesOfSet_26 : decode cX3_pipesOfSet 26 = .ok (.iaload, 1) := by decide +kernel
theorem dX3_pipesOfSet_27 : decode cX3_pipesOfSet 27 = .ok (.ior, 1) := by decide +kernel
theorem dX3_pipesOfSet_28 : decode cX3_pipesOfSet 28 = .ok (.istore_n 2, 1) := by decide +kernel
theorem dX3_pipesOfSet_29 : decode cX3_pipesOfSet 29 = .ok (.iinc 3 1, 3) := by decide +kernel
theorem dX3_pipesOfSet_32 : decode cX3_pipesOfSet 32 = .ok (.goto (-28), 3) := by decide +kernel
theorem dX3_pipesOfSet_35 : decode cX3_pipesOfSet 35 = .ok (.iload_n 2, 1) := by decide +kernel
theorem dX3_pipesOfSet_36 : decode cX3_pipesOfSet 36 = .ok (.ireturn, 1) := by decide +kernel
theorem dX3_latestBeat_0 : decode cX3_latestBeat 0 = .ok (.aload_n 0, 1) := by decide +kernel
theorem dX3_latestBeat_1 : decode cX3_latestBeat 1 = .ok (.getfield 40, 3) := by decide +kernel
theorem dX3_latestBeat_4 : decode cX3_latestBeat 4 = .ok (.ifCond .ne 7, 3) := by decide +kernel
theorem dX3_latestBeat_7 : decode cX3_latestBeat 7 = .ok (.iconst 0, 1) := by decide +kernel
theorem dX3_latestBeat_8 : decode cX3_latestBeat 8 = .ok (.goto 14, 3) := by decide +kernel
theorem dX3_latestBeat_11 : decode cX3_latestBeat 11 = .ok (.aload_n 0, 1) := by decide +kernel
theorem dX3_latestBeat_12 : decode cX3_latestBeat 12 = .ok (.getfield 24, 3) := by decide +kernel
theorem dX3_latestBeat_15 : decode cX3_latestBeat 15 = .ok (.aload_n 0, 1) := by decide +kernel
theorem dX3_latestBeat_16 : decode cX3_latestBeat 16 = .ok (.getfield 40, 3) := by decide +kernel
theorem dX3_latestBeat_19 : decode cX3_latestBeat 19 = .ok (.iconst 1, 1) := by decide +kernel
theorem dX3_latestBeat_20 : decode cX3_latestBeat 20 = .ok (.isub, 1) := by decide +kernel
theorem dX3_latestBeat_21 : decode cX3_latestBeat 21 = .ok (.iaload, 1) := by decide +kernel
theorem dX3_latestBeat_22 : decode cX3_latestBeat 22 = .ok (.ireturn, 1) := by decide +kernel
theorem dX3_addTower_0 : decode cX3_addTower 0 = .ok (.aload_n 0, 1) := by decide +kernel
theorem dX3_addTower_1 : decode cX3_addTower 1 = .ok (.getfield 33, 3) := by decide +kernel
theorem dX3_addTower_4 : decode cX3_addTower 4 = .ok (.bipush 6, 2) := by decide +kernel
theorem dX3_addTower_6 : decode cX3_addTower 6 = .ok (.if_icmp .ge 38, 3) := by decide +kernel
theorem dX3_addTower_9 : decode cX3_addTower 9 = .ok (.aload_n 0, 1) := by decide +kernel
theorem dX3_addTower_10 : decode cX3_addTower 10 = .ok (.getfield 15, 3) := by decide +kernel
theorem dX3_addTower_13 : decode cX3_addTower 13 = .ok (.aload_n 0, 1) := by decide +kernel
theorem dX3_addTower_14 : decode cX3_addTower 14 = .ok (.getfield 33, 3) := by decide +kernel
theorem dX3_addTower_17 : decode cX3_addTower 17 = .ok (.bipush 9, 2) := by decide +kernel
theorem dX3_addTower_19 : decode cX3_addTower 19 = .ok (.iload_n 2, 1) := by decide +kernel
theorem dX3_addTower_20 : decode cX3_addTower 20 = .ok (.imul, 1) := by decide +kernel
theorem dX3_addTower_21 : decode cX3_addTower 21 = .ok (.iload_n 1, 1) := by decide +kernel
theorem dX3_addTower_22 : decode cX3_addTower 22 = .ok (.iadd, 1) := by decide +kernel
theorem dX3_addTower_23 : decode cX3_addTower 23 = .ok (.iastore, 1) := by decide +kernel
theorem dX3_addTower_24 : decode cX3_addTower 24 = .ok (.aload_n 0, 1) := by decide +kernel
theorem dX3_addTower_25 : decode cX3_addTower 25 = .ok (.getfield 18, 3) := by decide +kernel
theorem dX3_addTower_28 : decode cX3_addTower 28 = .ok (.aload_n 0, 1) := by decide +kernel
theorem dX3_addTower_29 : decode cX3_addTower 29 = .ok (.getfield 33, 3) := by decide +kernel
theorem dX3_addTower_32 : decode cX3_addTower 32 = .ok (.iload_n 3, 1) := by decide +kernel
theorem dX3_addTower_33 : decode cX3_addTower 33 = .ok (.iastore, 1) := by decide +kernel
theorem dX3_addTower_34 : decode cX3_addTower 34 = .ok (.aload_n 0, 1) := by decide +kernel
theorem dX3_addTower_35 : decode cX3_addTower 35 = .ok (.dup, 1) := by decide +kernel
theorem dX3_addTower_36 : decode cX3_addTower 36 = .ok (.getfield 33, 3) := by decide +kernel
theorem dX3_addTower_39 : decode cX3_addTower 39 = .ok (.iconst 1, 1) := by decide +kernel
theorem dX3_addTower_40 : decode cX3_addTower 40 = .ok (.iadd, 1) := by decide +kernel
theorem dX3_addTower_41 : decode cX3_addTower 41 = .ok (.putfield 33, 3) := by decide +kernel
theorem dX3_addTower_44 : decode cX3_addTower 44 = .ok (.return_, 1) := by decide +kernel
theorem dX3_addHill_0 : decode cX3_addHill 0 = .ok (.aload_n 0, 1) := by decide +kernel
theorem dX3_addHill_1 : decode cX3_addHill 1 = .ok (.getfield 37, 3) := by decide +kernel
theorem dX3_addHill_4 : decode cX3_addHill 4 = .ok (.iconst 3, 1) := by decide +kernel
theorem dX3_addHill_5 : decode cX3_addHill 5 = .ok (.if_icmp .ge 28, 3) := by decide +kernel
theorem dX3_addHill_8 : decode cX3_addHill 8 = .ok (.aload_n 0, 1) := by decide +kernel
theorem dX3_addHill_9 : decode cX3_addHill 9 = .ok (.getfield 21, 3) := by decide +kernel
theorem dX3_addHill_12 : decode cX3_addHill 12 = .ok (.aload_n 0, 1) := by decide +kernel
theorem dX3_addHill_13 : decode cX3_addHill 13 = .ok (.getfield 37, 3) := by decide +kernel
theorem dX3_addHill_16 : decode cX3_addHill 16 = .ok (.bipush 9, 2) := by decide +kernel
theorem dX3_addHill_18 : decode cX3_addHill 18 = .ok (.iload_n 2, 1) := by decide +kernel
theorem dX3_addHill_19 : decode cX3_addHill 19 = .ok (.imul, 1) := by decide +kernel
theorem dX3_addHill_20 : decode cX3_addHill 20 = .ok (.iload_n 1, 1) := by decide +kernel
theorem dX3_addHill_21 : decode cX3_addHill 21 = .ok (.iadd, 1) := by decide +kernel
theorem dX3_addHill_22 : decode cX3_addHill 22 = .ok (.iastore, 1) := by decide +kernel
theorem dX3_addHill_23 : decode cX3_addHill 23 = .ok (.aload_n 0, 1) := by decide +kernel
theorem dX3_addHill_24 : decode cX3_addHill 24 = .ok (.dup, 1) := by decide +kernel
theorem dX3_addHill_25 : decode cX3_addHill 25 = .ok (.getfield 37, 3) := by decide +kernel
theorem dX3_addHill_28 : decode cX3_addHill 28 = .ok (.iconst 1, 1) := by decide +kernel
theorem dX3_addHill_29 : decode cX3_addHill 29 = .ok (.iadd, 1) := by decide +kernel
theorem dX3_addHill_30 : decode cX3_addHill 30 = .ok (.putfield 37, 3) := by decide +kernel
theorem dX3_addHill_33 : decode cX3_addHill 33 = .ok (.return_, 1) := by decide +kernel
theorem dX3_addNote_0 : decode cX3_addNote 0 = .ok (.aload_n 0, 1) := by decide +kernel
theorem dX3_addNote_1 : decode cX3_addNote 1 = .ok (.getfield 40, 3) := by decide +kernel
theorem dX3_addNote_4 : decode cX3_addNote 4 = .ok (.bipush 12, 2) := by decide +kernel
theorem dX3_addNote_6 : decode cX3_addNote 6 = .ok (.if_icmp .ge 33, 3) := by decide +kernel
theorem dX3_addNote_9 : decode cX3_addNote 9 = .ok (.aload_n 0, 1) := by decide +kernel
theorem dX3_addNote_10 : decode cX3_addNote 10 = .ok (.getfield 24, 3) := by decide +kernel
theorem dX3_addNote_13 : decode cX3_addNote 13 = .ok (.aload_n 0, 1) := by decide +kernel
theorem dX3_addNote_14 : decode cX3_addNote 14 = .ok (.getfield 40, 3) := by decide +kernel
theorem dX3_addNote_17 : decode cX3_addNote 17 = .ok (.iload_n 1, 1) := by decide +kernel
theorem dX3_addNote_18 : decode cX3_addNote 18 = .ok (.iastore, 1) := by decide +kernel
theorem dX3_addNote_19 : decode cX3_addNote 19 = .ok (.aload_n 0, 1) := by decide +kernel
theorem dX3_addNote_20 : decode cX3_addNote 20 = .ok (.getfield 27, 3) := by decide +kernel
theorem dX3_addNote_23 : decode cX3_addNote 23 = .ok (.aload_n 0, 1) := by decide +kernel
theorem dX3_addNote_24 : decode cX3_addNote 24 = .ok (.getfield 40, 3) := by decide +kernel
theorem dX3_addNote_27 : decode cX3_addNote 27 = .ok (.iload_n 2, 1) := by decide +kernel
theorem dX3_addNote_28 : decode cX3_addNote 28 = .ok (.iastore, 1) := by decide +kernel
theorem dX3_addNote_29 : decode cX3_addNote 29 = .ok (.aload_n 0, 1) := by decide +kernel
theorem dX3_addNote_30 : decode cX3_addNote 30 = .ok (.dup, 1) := by decide +kernel
theorem dX3_addNote_31 : decode cX3_addNote 31 = .ok (.getfield 40, 3) := by decide +kernel
theorem dX3_addNote_34 : decode cX3_addNote 34 = .ok (.iconst 1, 1) := by decide +kernel
theorem dX3_addNote_35 : decode cX3_addNote 35 = .ok (.iadd, 1) := by decide +kernel
theorem dX3_addNote_36 : decode cX3_addNote 36 = .ok (.putfield 40, 3) := by decide +kernel
theorem dX3_addNote_39 : decode cX3_addNote 39 = .ok (.return_, 1) := by decide +kernel
theorem dX4_init_0 : decode cX4_init 0 = .ok (.aload_n 0, 1) := by decide +kernel
theorem dX4_init_1 : decode cX4_init 1 = .ok (.invokespecial 3, 3) := by decide +kernel
theorem dX4_init_4 : decode cX4_init 4 = .ok (.aload_n 0, 1) := by decide +kernel
theorem dX4_init_5 : decode cX4_init 5 = .ok (.bipush 40, 2) := by decide +kernel
theorem dX4_init_7 : decode cX4_init 7 = .ok (.newarray .int, 2) := by decide +kernel
theorem dX4_init_9 : decode cX4_init 9 = .ok (.putfield 9, 3) := by decide +kernel
theorem dX4_init_12 : decode cX4_init 12 = .ok (.aload_n 0, 1) := by decide +kernel
theorem dX4_init_13 : decode cX4_init 13 = .ok (.iconst (-1), 1) := by decide +kernel
theorem dX4_init_14 : decode cX4_init 14 = .ok (.putfield 15, 3) := by decide +kernel
theorem dX4_init_17 : decode cX4_init 17 = .ok (.return_, 1) := by decide +kernel
theorem dX4_isNothing_0 : decode cX4_isNothing 0 = .ok (.aload_n 0, 1) := by decide +kernel
theorem dX4_isNothing_1 : decode cX4_isNothing 1 = .ok (.getfield 15, 3) := by decide +kernel
theorem dX4_isNothing_4 : decode cX4_isNothing 4 = .ok (.iconst (-1), 1) := by decide +kernel
theorem dX4_isNothing_5 : decode cX4_isNothing 5 = .ok (.if_icmp .ne 7, 3) := by decide +kernel
theorem dX4_isNothing_8 : decode cX4_isNothing 8 = .ok (.iconst 1, 1) := by decide +kernel
theorem dX4_isNothing_9 : decode cX4_isNothing 9 = .ok (.goto 4, 3) := by decide +kernel
theorem dX4_isNothing_12 : decode cX4_isNothing 12 = .ok (.iconst 0, 1) := by decide +kernel
theorem dX4_isNothing_13 : decode cX4_isNothing 13 = .ok (.ireturn, 1) := by decide +kernel
theorem dX4_renew_0 : decode cX4_renew 0 = .ok (.aload_n 0, 1) := by decide +kernel
theorem dX4_renew_1 : decode cX4_renew 1 = .ok (.iload_n 1, 1) := by decide +kernel
theorem dX4_renew_2 : decode cX4_renew 2 = .ok (.putfield 15, 3) := by decide +kernel
theorem dX4_renew_5 : decode cX4_renew 5 = .ok (.aload_n 0, 1) := by decide +kernel
theorem dX4_renew_6 : decode cX4_renew 6 = .ok (.iload_n 2, 1) := by decide +kernel
theorem dX4_renew_7 : decode cX4_renew 7 = .ok (.putfield 19, 3) := by decide +kernel
theorem dX4_renew_10 : decode cX4_renew 10 = .ok (.iconst 0, 1) := by decide +kernel
theorem dX4_renew_11 : decode cX4_renew 11 = .ok (.istore_n 3, 1) := by decide +kernel
theorem dX4_renew_12 : decode cX4_renew 12 = .ok (.iload_n 3, 1) := by decide +kernel
theorem dX4_renew_13 : decode cX4_renew 13 = .ok (.bipush 40, 2) := by decide +kernel
theorem dX4_renew_15 : decode cX4_renew 15 = .ok (.if_icmp .ge 16, 3) := by decide +kernel
theorem dX4_renew_18 : decode cX4_renew 18 = .ok (.aload_n 0, 1) := by decide +kernel
theorem dX4_renew_19 : decode cX4_renew 19 = .ok (.getfield 9, 3) := by decide +kernel
theorem dX4_renew_22 : decode cX4_renew 22 = .ok (.iload_n 3, 1) := by decide +kernel
theorem dX4_renew_23 : decode cX4_renew 23 = .ok (.iconst 0, 1) := by decide +kernel
theorem dX4_renew_24 : decode cX4_renew 24 = .ok (.iastore, 1) := by decide +kernel
theorem dX4_renew_25 : decode cX4_renew 25 = .ok (.iinc 3 1, 3) := by decide +kernel
theorem dX4_renew_28 : decode cX4_renew 28 = .ok (.goto (-16), 3) := by decide +kernel
theorem dX4_renew_31 : decode cX4_renew 31 = .ok (.return_, 1) := by decide +kernel
theorem dX4_put_0 : decode cX4_put 0 = .ok (.aload_n 0, 1) := by decide +kernel
theorem dX4_put_1 : decode cX4_put 1 = .ok (.getfield 15, 3) := by decide +kernel
theorem dX4_put_4 : decode cX4_put 4 = .ok (.ifCond .ne 14, 3) := by decide +kernel
theorem dX4_put_7 : decode cX4_put 7 = .ok (.aload_n 0, 1) := by decide +kernel
theorem dX4_put_8 : decode cX4_put 8 = .ok (.getfield 9, 3) := by decide +kernel
theorem dX4_put_11 : decode cX4_put 11 = .ok (.iload_n 1, 1) := by decide +kernel
theorem dX4_put_12 : decode cX4_put 12 = .ok (.iload_n 2, 1) := by decide +kernel
theorem dX4_put_13 : decode cX4_put 13 = .ok (.i2b, 1) := by decide +kernel
theorem dX4_put_14 : decode cX4_put 14 = .ok (.iastore, 1) := by decide +kernel
theorem dX4_put_15 : decode cX4_put 15 = .ok (.goto 29, 3) := by decide +kernel
theorem dX4_put_18 : decode cX4_put 18 = .ok (.aload_n 0, 1) := by decide +kernel
theorem dX4_put_19 : decode cX4_put 19 = .ok (.getfield 15, 3) := by decide +kernel
theorem dX4_put_22 : decode cX4_put 22 = .ok (.iconst 1, 1) := by decide +kernel
theorem dX4_put_23 : decode cX4_put 23 = .ok (.if_icmp .ne 14, 3) := by decide +kernel
theorem dX4_put_26 : decode cX4_put 26 = .ok (.aload_n 0, 1) := by decide +kernel
theorem dX4_put_27 : decode cX4_put 27 = .ok (.getfield 9, 3) := by decide +kernel
theorem dX4_put_30 : decode cX4_put 30 = .ok (.iload_n 1, 1) := by decide +kernel
theorem dX4_put_31 : decode cX4_put 31 = .ok (.iload_n 2, 1) := by decide +kernel
theorem dX4_put_32 : decode cX4_put 32 = .ok (.i2s, 1) := by decide +kernel
theorem dX4_put_33 : decode cX4_put 33 = .ok (.iastore, 1) := by decide +kernel
theorem dX4_put_34 : decode cX4_put 34 = .ok (.goto 10, 3) := by decide +kernel
theorem dX4_put_37 : decode cX4_put 37 = .ok (.aload_n 0, 1) := by decide +kernel
theorem dX4_put_38 : decode cX4_put 38 = .ok (.getfield 9, 3) := by decide +kernel
theorem dX4_put_41 : decode cX4_put 41 = .ok (.iload_n 1, 1) := by decide +kernel
theorem dX4_put_42 : decode cX4_put 42 = .ok (.iload_n 2, 1) := by decide +kernel
theorem dX4_put_43 : decode cX4_put 43 = .ok (.iastore, 1) := by decide +kernel
theorem dX4_put_44 : decode cX4_put 44 = .ok (.return_, 1) := by decide +kernel
theorem dX4_faultAs_0 : decode cX4_faultAs 0 = .ok (.aload_n 0, 1) := by decide +kernel
theorem dX4_faultAs_1 : decode cX4_faultAs 1 = .ok (.invokevirtual 22, 3) := by decide +kernel
theorem dX4_faultAs_4 : decode cX4_faultAs 4 = .ok (.ifCond .eq 5, 3) := by decide +kernel
theorem dX4_faultAs_7 : decode cX4_faultAs 7 = .ok (.iconst 1, 1) := by decide +kernel
theorem dX4_faultAs_8 : decode cX4_faultAs 8 = .ok (.ireturn, 1) := by decide +kernel
theorem dX4_faultAs_9 : decode cX4_faultAs 9 = .ok (.aload_n 0, 1) := by decide +kernel
theorem dX4_faultAs_10 : decode cX4_faultAs 10 = .ok (.getfield 15, 3) := by decide +kernel
theorem dX4_faultAs_13 : decode cX4_faultAs 13 = .ok (.iload_n 1, 1) := by decide +kernel
theorem dX4_faultAs_14 : decode cX4_faultAs 14 = .ok (.if_icmp .ne 7, 3) := by decide +kernel
theorem dX4_faultAs_17 : decode cX4_faultAs 17 = .ok (.iconst 0, 1) := by decide +kernel
theorem dX4_faultAs_18 : decode cX4_faultAs 18 = .ok (.goto 4, 3) := by decide +kernel
theorem dX4_faultAs_21 : decode cX4_faultAs 21 = .ok (.iconst 3, 1) := by decide +kernel
theorem dX4_faultAs_22 : decode cX4_faultAs 22 = .ok (.ireturn, 1) := by decide +kernel
theorem dX4_hasBlowAt_0 : decode cX4_hasBlowAt 0 = .ok (.iload_n 1, 1) := by decide +kernel
theorem dX4_hasBlowAt_1 : decode cX4_hasBlowAt 1 = .ok (.ifCond .lt 17, 3) := by decide +kernel
theorem dX4_hasBlowAt_4 : decode cX4_hasBlowAt 4 = .ok (.iload_n 1, 1) := by decide +kernel
theorem dX4_hasBlowAt_5 : decode cX4_hasBlowAt 5 = .ok (.aload_n 0, 1) := by decide +kernel
theorem dX4_hasBlowAt_6 : decode cX4_hasBlowAt 6 = .ok (.getfield 19, 3) := by decide +kernel
theorem dX4_hasBlowAt_9 : decode cX4_hasBlowAt 9 = .ok (.iconst 3, 1) := by decide +kernel
theorem dX4_hasBlowAt_10 : decode cX4_hasBlowAt 10 = .ok (.isub, 1) := by decide +kernel
theorem dX4_hasBlowAt_11 : decode cX4_hasBlowAt 11 = .ok (.if_icmp .gt 7, 3) := by decide +kernel
theorem dX4_hasBlowAt_14 : decode cX4_hasBlowAt 14 = .ok (.iconst 1, 1) := by decide +kernel
theorem dX4_hasBlowAt_15 : decode cX4_hasBlowAt 15 = .ok (.goto 4, 3) := by decide +kernel
theorem dX4_hasBlowAt_18 : decode cX4_hasBlowAt 18 = .ok (.iconst 0, 1) := by decide +kernel
theorem dX4_hasBlowAt_19 : decode cX4_hasBlowAt 19 = .ok (.ireturn, 1) := by decide +kernel
theorem dX5_init_0 : decode cX5_init 0 = .ok (.aload_n 0, 1) := by decide +kernel
theorem dX5_init_1 : decode cX5_init 1 = .ok (.invokespecial 3, 3) := by decide +kernel
theorem dX5_init_4 : decode cX5_init 4 = .ok (.aload_n 0, 1) := by decide +kernel
theorem dX5_init_5 : decode cX5_init 5 = .ok (.sipush 320, 3) := by decide +kernel
theorem dX5_init_8 : decode cX5_init 8 = .ok (.newarray .byte, 2) := by decide +kernel
theorem dX5_init_10 : decode cX5_init 10 = .ok (.putfield 9, 3) := by decide +kernel
theorem dX5_init_13 : decode cX5_init 13 = .ok (.return_, 1) := by decide +kernel
theorem dX5_put_0 : decode cX5_put 0 = .ok (.aload_n 0, 1) := by decide +kernel
theorem dX5_put_1 : decode cX5_put 1 = .ok (.getfield 15, 3) := by decide +kernel
theorem dX5_put_4 : decode cX5_put 4 = .ok (.bipush 8, 2) := by decide +kernel
theorem dX5_put_6 : decode cX5_put 6 = .ok (.iadd, 1) := by decide +kernel
theorem dX5_put_7 : decode cX5_put 7 = .ok (.sipush 320, 3) := by decide +kernel
theorem dX5_put_10 : decode cX5_put 10 = .ok (.if_icmp .le 5, 3) := by decide +kernel
theorem dX5_put_13 : decode cX5_put 13 = .ok (.iconst 0, 1) := by decide +kernel
theorem dX5_put_14 : decode cX5_put 14 = .ok (.ireturn, 1) := by decide +kernel
theorem dX5_put_15 : decode cX5_put 15 = .ok (.bipush 56, 2) := by decide +kernel
theorem dX5_put_17 : decode cX5_put 17 = .ok (.istore_n 3, 1) := by decide +kernel
theorem dX5_put_18 : decode cX5_put 18 = .ok (.iload_n 3, 1) := by decide +kernel
theorem dX5_put_19 : decode cX5_put 19 = .ok (.ifCond .lt 33, 3) := by decide +kernel
theorem dX5_put_22 : decode cX5_put 22 = .ok (.aload_n 0, 1) := by decide +kernel
theorem dX5_put_23 : decode cX5_put 23 = .ok (.getfield 9, 3) := by decide +kernel
theorem dX5_put_26 : decode cX5_put 26 = .ok (.aload_n 0, 1) := by decide +kernel
theorem dX5_put_27 : decode cX5_put 27 = .ok (.getfield 15, 3) := by decide +kernel
theorem dX5_put_30 : decode cX5_put 30 = .ok (.lload_n 1, 1) := by decide +kernel
theorem dX5_put_31 : decode cX5_put 31 = .ok (.iload_n 3, 1) := by decide +kernel
theorem dX5_put_32 : decode cX5_put 32 = .ok (.lshr, 1) := by decide +kernel
theorem dX5_put_33 : decode cX5_put 33 = .ok (.l2i, 1) := by decide +kernel
theorem dX5_put_34 : decode cX5_put 34 = .ok (.i2b, 1) := by decide +kernel
theorem dX5_put_35 : decode cX5_put 35 = .ok (.bastore, 1) := by decide +kernel
theorem dX5_put_36 : decode cX5_put 36 = .ok (.aload_n 0, 1) := by decide +kernel
theorem dX5_put_37 : decode cX5_put 37 = .ok (.dup, 1) := by decide +kernel
theorem dX5_put_38 : decode cX5_put 38 = .ok (.getfield 15, 3) := by decide +kernel
theorem dX5_put_41 : decode cX5_put 41 = .ok (.iconst 1, 1) := by decide +kernel
theorem dX5_put_42 : decode cX5_put 42 = .ok (.iadd, 1) := by decide +kernel
theorem dX5_put_43 : decode cX5_put 43 = .ok (.putfield 15, 3) := by decide +kernel
theorem dX5_put_46 : decode cX5_put 46 = .ok (.iinc 3 (-8), 3) := by decide +kernel
theorem dX5_put_49 : decode cX5_put 49 = .ok (.goto (-31), 3) := by decide +kernel
theorem dX5_put_52 : decode cX5_put 52 = .ok (.iconst 1, 1) := by decide +kernel
theorem dX5_put_53 : decode cX5_put 53 = .ok (.ireturn, 1) := by decide +kernel
theorem dX5_rewind_0 : decode cX5_rewind 0 = .ok (.aload_n 0, 1) := by decide +kernel
theorem dX5_rewind_1 : decode cX5_rewind 1 = .ok (.iconst 0, 1) := by decide +kernel
theorem dX5_rewind_2 : decode cX5_rewind 2 = .ok (.putfield 19, 3) := by decide +kernel
theorem dX5_rewind_5 : decode cX5_rewind 5 = .ok (.return_, 1) := by decide +kernel
theorem dX5_readToken_0 : decode cX5_readToken 0 = .ok (.aload_n 0, 1) := by decide +kernel
theorem dX5_readToken_1 : decode cX5_readToken 1 = .ok (.getfield 19, 3) := by decide +kernel
theorem dX5_readToken_4 : decode cX5_readToken 4 = .ok (.aload_n 0, 1) := by decide +kernel
theorem dX5_readToken_5 : decode cX5_readToken 5 = .ok (.getfield 15, 3) := by decide +kernel
theorem dX5_readToken_8 : decode cX5_readToken 8 = .ok (.if_icmp .ge 30, 3) := by decide +kernel
theorem dX5_readToken_11 : decode cX5_readToken 11 = .ok (.aload_n 0, 1) := by decide +kernel
theorem dX5_readToken_12 : decode cX5_readToken 12 = .ok (.getfield 9, 3) := by decide +kernel
theorem dX5_readToken_15 : decode cX5_readToken 15 = .ok (.aload_n 0, 1) := by decide +kernel
theorem dX5_readToken_16 : decode cX5_readToken 16 = .ok (.getfield 19, 3) := by decide +kernel
theorem dX5_readToken_19 : decode cX5_readToken 19 = .ok (.baload, 1) := by decide +kernel
theorem dX5_readToken_20 : decode cX5_readToken 20 = .ok (.bipush 32, 2) := by decide +kernel
theorem dX5_readToken_22 : decode cX5_readToken 22 = .ok (.if_icmp .ne 16, 3) := by decide +kernel
theorem dX5_readToken_25 : decode cX5_readToken 25 = .ok (.aload_n 0, 1) := by decide +kernel
theorem dX5_readToken_26 : decode cX5_readToken 26 = .ok (.dup, 1) := by decide +kernel
theorem dX5_readToken_27 : decode cX5_readToken 27 = .ok (.getfield 19, 3) := by decide +kernel
theorem dX5_readToken_30 : decode cX5_readToken 30 = .ok (.iconst 1, 1) := by decide +kernel
theorem dX5_readToken_31 : decode cX5_readToken 31 = .ok (.iadd, 1) := by decide +kernel
theorem dX5_readToken_32 : decode cX5_readToken 32 = .ok (.putfield 19, 3) := by decide +kernel
theorem dX5_readToken_35 : decode cX5_readToken 35 = .ok (.goto (-35), 3) := by decide +kernel
theorem dX5_readToken_38 : decode cX5_readToken 38 = .ok (.aload_n 0, 1) := by decide +kernel
theorem dX5_readToken_39 : decode cX5_readToken 39 = .ok (.aload_n 0, 1) := by decide +kernel
theorem dX5_readToken_40 : decode cX5_readToken 40 = .ok (.getfield 19, 3) := by decide +kernel
theorem dX5_readToken_43 : decode cX5_readToken 43 = .ok (.putfield 22, 3) := by decide +kernel
theorem dX5_readToken_46 : decode cX5_readToken 46 = .ok (.aload_n 0, 1) := by decide +kernel
theorem dX5_readToken_47 : decode cX5_readToken 47 = .ok (.getfield 19, 3) := by decide +kernel
theorem dX5_readToken_50 : decode cX5_readToken 50 = .ok (.aload_n 0, 1) := by decide +kernel
theorem dX5_readToken_51 : decode cX5_readToken 51 = .ok (.getfield 15, 3) := by decide +kernel
theorem dX5_readToken_54 : decode cX5_readToken 54 = .ok (.if_icmp .lt 11, 3) := by decide +kernel
theorem dX5_readToken_57 : decode cX5_readToken 57 = .ok (.aload_n 0, 1) := by decide +kernel
theorem dX5_readToken_58 : decode cX5_readToken 58 = .ok (.iconst 4, 1) := by decide +kernel
theorem dX5_readToken_59 : decode cX5_readToken 59 = .ok (.putfield 25, 3) := by decide +kernel
theorem dX5_readToken_62 : decode cX5_readToken 62 = .ok (.goto 80, 3) := by decide +kernel
theorem dX5_readToken_65 : decode cX5_readToken 65 = .ok (.aload_n 0, 1) := by decide +kernel
theorem dX5_readToken_66 : decode cX5_readToken 66 = .ok (.getfield 9, 3) := by decide +kernel
theorem dX5_readToken_69 : decode cX5_readToken 69 = .ok (.aload_n 0, 1) := by decide +kernel
theorem dX5_readToken_70 : decode cX5_readToken 70 = .ok (.getfield 19, 3) := by decide +kernel
theorem dX5_readToken_73 : decode cX5_readToken 73 = .ok (.baload, 1) := by decide +kernel
theorem dX5_readToken_74 : decode cX5_readToken 74 = .ok (.invokestatic 28, 3) := by decide +kernel
theorem dX5_readToken_77 : decode cX5_readToken 77 = .ok (.ifCond .eq 10, 3) := by decide +kernel
theorem dX5_readToken_80 : decode cX5_readToken 80 = .ok (.aload_n 0, 1) := by decide +kernel
theorem dX5_readToken_81 : decode cX5_readToken 81 = .ok (.invokevirtual 32, 3) := by decide +kernel
theorem dX5_readToken_84 : decode cX5_readToken 84 = .ok (.goto 58, 3) := by decide +kernel
theorem dX5_readToken_87 : decode cX5_readToken 87 = .ok (.aload_n 0, 1) := by decide +kernel
theorem dX5_readToken_88 : decode cX5_readToken 88 = .ok (.getfield 9, 3) := by decide +kernel
theorem dX5_readToken_91 : decode cX5_readToken 91 = .ok (.aload_n 0, 1) := by decide +kernel
theorem dX5_readToken_92 : decode cX5_readToken 92 = .ok (.getfield 19, 3) := by decide +kernel
theorem dX5_readToken_95 : decode cX5_readToken 95 = .ok (.baload, 1) := by decide +kernel
theorem dX5_readToken_96 : decode cX5_readToken 96 = .ok (.invokestatic 35, 3) := by decide +kernel
theorem dX5_readToken_99 : decode cX5_readToken 99 = .ok (.ifCond .eq 10, 3) := by decide +kernel
theorem dX5_readToken_102 : decode cX5_readToken 102 = .ok (.aload_n 0, 1) := by decide +kernel
theorem dX5_readToken_103 : decode cX5_readToken 103 = .ok (.invokevirtual 38, 3) := by decide +kernel
theorem dX5_readToken_106 : decode cX5_readToken 106 = .ok (.goto 36, 3) := by decide +kernel
theorem dX5_readToken_109 : decode cX5_readToken 109 = .ok (.aload_n 0, 1) := by decide +kernel
theorem dX5_readToken_110 : decode cX5_readToken 110 = .ok (.aload_n 0, 1) := by decide +kernel
theorem dX5_readToken_111 : decode cX5_readToken 111 = .ok (.getfield 9, 3) := by decide +kernel
theorem dX5_readToken_114 : decode cX5_readToken 114 = .ok (.aload_n 0, 1) := by decide +kernel
theorem dX5_readToken_115 : decode cX5_readToken 115 = .ok (.getfield 19, 3) := by decide +kernel
theorem dX5_readToken_118 : decode cX5_readToken 118 = .ok (.baload, 1) := by decide +kernel
theorem dX5_readToken_119 : decode cX5_readToken 119 = .ok (.bipush 59, 2) := by decide +kernel
theorem dX5_readToken_121 : decode cX5_readToken 121 = .ok (.if_icmp .ne 7, 3) := by decide +kernel
theorem dX5_readToken_124 : decode cX5_readToken 124 = .ok (.iconst 3, 1) := by decide +kernel
theorem dX5_readToken_125 : decode cX5_readToken 125 = .ok (.goto 4, 3) := by decide +kernel
theorem dX5_readToken_128 : decode cX5_readToken 128 = .ok (.iconst 0, 1) := by decide +kernel
theorem dX5_readToken_129 : decode cX5_readToken 129 = .ok (.putfield 25, 3) := by decide +kernel
theorem dX5_readToken_132 : decode cX5_readToken 132 = .ok (.aload_n 0, 1) := by decide +kernel
theorem dX5_readToken_133 : decode cX5_readToken 133 = .ok (.dup, 1) := by decide +kernel
theorem dX5_readToken_134 : decode cX5_readToken 134 = .ok (.getfield 19, 3) := by decide +kernel
theorem dX5_readToken_137 : decode cX5_readToken 137 = .ok (.iconst 1, 1) := by decide +kernel
theorem dX5_readToken_138 : decode cX5_readToken 138 = .ok (.iadd, 1) := by decide +kernel
theorem dX5_readToken_139 : decode cX5_readToken 139 = .ok (.putfield 19, 3) := by decide +kernel
theorem dX5_readToken_142 : decode cX5_readToken 142 = .ok (.return_, 1) := by decide +kernel
theorem dX5_readName_0 : decode cX5_readName 0 = .ok (.aload_n 0, 1) := by decide +kernel
theorem dX5_readName_1 : decode cX5_readName 1 = .ok (.iconst 1, 1) := by decide +kernel
theorem dX5_readName_2 : decode cX5_readName 2 = .ok (.putfield 25, 3) := by decide +kernel
theorem dX5_readName_5 : decode cX5_readName 5 = .ok (.aload_n 0, 1) := by decide +kernel
theorem dX5_readName_6 : decode cX5_readName 6 = .ok (.getfield 19, 3) := by decide +kernel
theorem dX5_readName_9 : decode cX5_readName 9 = .ok (.aload_n 0, 1) := by decide +kernel
theorem dX5_readName_10 : decode cX5_readName 10 = .ok (.getfield 15, 3) := by decide +kernel
theorem dX5_readName_13 : decode cX5_readName 13 = .ok (.if_icmp .ge 31, 3) := by decide +kernel
theorem dX5_readName_16 : decode cX5_readName 16 = .ok (.aload_n 0, 1) := by decide +kernel
theorem dX5_readName_17 : decode cX5_readName 17 = .ok (.getfield 9, 3) := by decide +kernel
theorem dX5_readName_20 : decode cX5_readName 20 = .ok (.aload_n 0, 1) := by decide +kernel
theorem dX5_readName_21 : decode cX5_readName 21 = .ok (.getfield 19, 3) := by decide +kernel
theorem dX5_readName_24 : decode cX5_readName 24 = .ok (.baload, 1) := by decide +kernel
theorem dX5_readName_25 : decode cX5_readName 25 = .ok (.invokestatic 28, 3) := by decide +kernel
theorem dX5_readName_28 : decode cX5_readName 28 = .ok (.ifCond .eq 16, 3) := by decide +kernel
theorem dX5_readName_31 : decode cX5_readName 31 = .ok (.aload_n 0, 1) := by decide +kernel
theorem dX5_readName_32 : decode cX5_readName 32 = .ok (.dup, 1) := by decide +kernel
theorem dX5_readName_33 : decode cX5_readName 33 = .ok (.getfield 19, 3) := by decide +kernel
theorem dX5_readName_36 : decode cX5_readName 36 = .ok (.iconst 1, 1) := by decide +kernel
theorem dX5_readName_37 : decode cX5_readName 37 = .ok (.iadd, 1) := by decide +kernel
theorem dX5_readName_38 : decode cX5_readName 38 = .ok (.putfield 19, 3) := by decide +kernel
theorem dX5_readName_41 : decode cX5_readName 41 = .ok (.goto (-36), 3) := by decide +kernel
theorem dX5_readName_44 : decode cX5_readName 44 = .ok (.return_, 1) := by decide +kernel
theorem dX5_readNumber_0 : decode cX5_readNumber 0 = .ok (.aload_n 0, 1) := by decide +kernel
theorem dX5_readNumber_1 : decode cX5_readNumber 1 = .ok (.iconst 0, 1) := by decide +kernel
theorem dX5_readNumber_2 : decode cX5_readNumber 2 = .ok (.putfield 41, 3) := by decide +kernel
theorem dX5_readNumber_5 : decode cX5_readNumber 5 = .ok (.aload_n 0, 1) := by decide +kernel
theorem dX5_readNumber_6 : decode cX5_readNumber 6 = .ok (.getfield 19, 3) := by decide +kernel
theorem dX5_readNumber_9 : decode cX5_readNumber 9 = .ok (.aload_n 0, 1) := by decide +kernel
theorem dX5_readNumber_10 : decode cX5_readNumber 10 = .ok (.getfield 15, 3) := by decide +kernel
theorem dX5_readNumber_13 : decode cX5_readNumber 13 = .ok (.if_icmp .ge 55, 3) := by decide +kernel
theorem dX5_readNumber_16 : decode cX5_readNumber 16 = .ok (.aload_n 0, 1) := by decide +kernel
theorem dX5_readNumber_17 : decode cX5_readNumber 17 = .ok (.getfield 9, 3) := by decide +kernel
theorem dX5_readNumber_20 : decode cX5_readNumber 20 = .ok (.aload_n 0, 1) := by decide +kernel
theorem dX5_readNumber_21 : decode cX5_readNumber 21 = .ok (.getfield 19, 3) := by decide +kernel
theorem dX5_readNumber_24 : decode cX5_readNumber 24 = .ok (.baload, 1) := by decide +kernel
theorem dX5_readNumber_25 : decode cX5_readNumber 25 = .ok (.invokestatic 35, 3) := by decide +kernel
theorem dX5_readNumber_28 : decode cX5_readNumber 28 = .ok (.ifCond .eq 40, 3) := by decide +kernel
theorem dX5_readNumber_31 : decode cX5_readNumber 31 = .ok (.aload_n 0, 1) := by decide +kernel
theorem dX5_readNumber_32 : decode cX5_readNumber 32 = .ok (.bipush 10, 2) := by decide +kernel
theorem dX5_readNumber_34 : decode cX5_readNumber 34 = .ok (.aload_n 0, 1) := by decide +kernel
theorem dX5_readNumber_35 : decode cX5_readNumber 35 = .ok (.getfield 41, 3) := by decide +kernel
theorem dX5_readNumber_38 : decode cX5_readNumber 38 = .ok (.imul, 1) := by decide +kernel
theorem dX5_readNumber_39 : decode cX5_readNumber 39 = .ok (.aload_n 0, 1) := by decide +kernel
theorem dX5_readNumber_40 : decode cX5_readNumber 40 = .ok (.getfield 9, 3) := by decide +kernel
theorem dX5_readNumber_43 : decode cX5_readNumber 43 = .ok (.aload_n 0, 1) := by decide +kernel
theorem dX5_readNumber_44 : decode cX5_readNumber 44 = .ok (.getfield 19, 3) := by decide +kernel
theorem dX5_readNumber_47 : decode cX5_readNumber 47 = .ok (.baload, 1) := by decide +kernel
theorem dX5_readNumber_48 : decode cX5_readNumber 48 = .ok (.iadd, 1) := by decide +kernel
theorem dX5_readNumber_49 : decode cX5_readNumber 49 = .ok (.bipush 48, 2) := by decide +kernel
theorem dX5_readNumber_51 : decode cX5_readNumber 51 = .ok (.isub, 1) := by decide +kernel
theorem dX5_readNumber_52 : decode cX5_readNumber 52 = .ok (.putfield 41, 3) := by decide +kernel
theorem dX5_readNumber_55 : decode cX5_readNumber 55 = .ok (.aload_n 0, 1) := by decide +kernel
theorem dX5_readNumber_56 : decode cX5_readNumber 56 = .ok (.dup, 1) := by decide +kernel
theorem dX5_readNumber_57 : decode cX5_readNumber 57 = .ok (.getfield 19, 3) := by decide +kernel
theorem dX5_readNumber_60 : decode cX5_readNumber 60 = .ok (.iconst 1, 1) := by decide +kernel
theorem dX5_readNumber_61 : decode cX5_readNumber 61 = .ok (.iadd, 1) := by decide +kernel
theorem dX5_readNumber_62 : decode cX5_readNumber 62 = .ok (.putfield 19, 3) := by decide +kernel
theorem dX5_readNumber_65 : decode cX5_readNumber 65 = .ok (.goto (-60), 3) := by decide +kernel
theorem dX5_readNumber_68 : decode cX5_readNumber 68 = .ok (.aload_n 0, 1) := by decide +kernel
theorem dX5_readNumber_69 : decode cX5_readNumber 69 = .ok (.aload_n 0, 1) := by decide +kernel
theorem dX5_readNumber_70 : decode cX5_readNumber 70 = .ok (.getfield 19, 3) := by decide +kernel
theorem dX5_readNumber_73 : decode cX5_readNumber 73 = .ok (.aload_n 0, 1) := by decide +kernel
theorem dX5_readNumber_74 : decode cX5_readNumber 74 = .ok (.getfield 22, 3) := by decide +kernel
theorem dX5_readNumber_77 : decode cX5_readNumber 77 = .ok (.isub, 1) := by decide +kernel
theorem dX5_readNumber_78 : decode cX5_readNumber 78 = .ok (.iconst 3, 1) := by decide +kernel
theorem dX5_readNumber_79 : decode cX5_readNumber 79 = .ok (.if_icmp .le 7, 3) := by decide +kernel
theorem dX5_readNumber_82 : decode cX5_readNumber 82 = .ok (.iconst 0, 1) := by decide +kernel
theorem dX5_readNumber_83 : decode cX5_readNumber 83 = .ok (.goto 4, 3) := by decide +kernel
theorem dX5_readNumber_86 : decode cX5_readNumber 86 = .ok (.iconst 2, 1) := by decide +kernel
theorem dX5_readNumber_87 : decode cX5_readNumber 87 = .ok (.putfield 25, 3) := by decide +kernel
theorem dX5_readNumber_90 : decode cX5_readNumber 90 = .ok (.return_, 1) := by decide +kernel
theorem dX5_nameIs_0 : decode cX5_nameIs 0 = .ok (.aload_n 0, 1) := by decide +kernel
theorem dX5_nameIs_1 : decode cX5_nameIs 1 = .ok (.getfield 25, 3) := by decide +kernel
theorem dX5_nameIs_4 : decode cX5_nameIs 4 = .ok (.iconst 1, 1) := by decide +kernel
theorem dX5_nameIs_5 : decode cX5_nameIs 5 = .ok (.if_icmp .ne 19, 3) := by decide +kernel
theorem dX5_nameIs_8 : decode cX5_nameIs 8 = .ok (.aload_n 0, 1) := by decide +kernel
theorem dX5_nameIs_9 : decode cX5_nameIs 9 = .ok (.getfield 19, 3) := by decide +kernel
theorem dX5_nameIs_12 : decode cX5_nameIs 12 = .ok (.aload_n 0, 1) := by decide +kernel
theorem dX5_nameIs_13 : decode cX5_nameIs 13 = .ok (.getfield 22, 3) := by decide +kernel
theorem dX5_nameIs_16 : decode cX5_nameIs 16 = .ok (.isub, 1) := by decide +kernel
theorem dX5_nameIs_17 : decode cX5_nameIs 17 = .ok (.aload_n 1, 1) := by decide +kernel
theorem dX5_nameIs_18 : decode cX5_nameIs 18 = .ok (.invokevirtual 44, 3) := by decide +kernel
theorem dX5_nameIs_21 : decode cX5_nameIs 21 = .ok (.if_icmp .eq 5, 3) := by decide +kernel
theorem dX5_nameIs_24 : decode cX5_nameIs 24 = .ok (.iconst 0, 1) := by decide +kernel
theorem dX5_nameIs_25 : decode cX5_nameIs 25 = .ok (.ireturn, 1) := by decide +kernel
theorem dX5_nameIs_26 : decode cX5_nameIs 26 = .ok (.iconst 0, 1) := by decide +kernel
theorem dX5_nameIs_27 : decode cX5_nameIs 27 = .ok (.istore_n 2, 1) := by decide +kernel
theorem dX5_nameIs_28 : decode cX5_nameIs 28 = .ok (.iload_n 2, 1) := by decide +kernel
theorem dX5_nameIs_29 : decode cX5_nameIs 29 = .ok (.aload_n 1, 1) := by decide +kernel
theorem dX5_nameIs_30 : decode cX5_nameIs 30 = .ok (.invokevirtual 44, 3) := by decide +kernel
theorem dX5_nameIs_33 : decode cX5_nameIs 33 = .ok (.if_icmp .ge 30, 3) := by decide +kernel
theorem dX5_nameIs_36 : decode cX5_nameIs 36 = .ok (.aload_n 0, 1) := by decide +kernel
theorem dX5_nameIs_37 : decode cX5_nameIs 37 = .ok (.getfield 9, 3) := by decide +kernel
theorem dX5_nameIs_40 : decode cX5_nameIs 40 = .ok (.aload_n 0, 1) := by decide +kernel
theorem dX5_nameIs_41 : decode cX5_nameIs 41 = .ok (.getfield 22, 3) := by decide +kernel
theorem dX5_nameIs_44 : decode cX5_nameIs 44 = .ok (.iload_n 2, 1) := by decide +kernel
theorem dX5_nameIs_45 : decode cX5_nameIs 45 = .ok (.iadd, 1) := by decide +kernel
theorem dX5_nameIs_46 : decode cX5_nameIs 46 = .ok (.baload, 1) := by decide +kernel
theorem dX5_nameIs_47 : decode cX5_nameIs 47 = .ok (.aload_n 1, 1) := by decide +kernel
theorem dX5_nameIs_48 : decode cX5_nameIs 48 = .ok (.iload_n 2, 1) := by decide +kernel
theorem dX5_nameIs_49 : decode cX5_nameIs 49 = .ok (.invokevirtual 49, 3) := by decide +kernel
theorem dX5_nameIs_52 : decode cX5_nameIs 52 = .ok (.if_icmp .eq 5, 3) := by decide +kernel
theorem dX5_nameIs_55 : decode cX5_nameIs 55 = .ok (.iconst 0, 1) := by decide +kernel
theorem dX5_nameIs_56 : decode cX5_nameIs 56 = .ok (.ireturn, 1) := by decide +kernel
theorem dX5_nameIs_57 : decode cX5_nameIs 57 = .ok (.iinc 2 1, 3) := by decide +kernel
theorem dX5_nameIs_60 : decode cX5_nameIs 60 = .ok (.goto (-32), 3) := by decide +kernel
theorem dX5_nameIs_63 : decode cX5_nameIs 63 = .ok (.iconst 1, 1) := by decide +kernel
theorem dX5_nameIs_64 : decode cX5_nameIs 64 = .ok (.ireturn, 1) := by decide +kernel
theorem dX5_isLetter_0 : decode cX5_isLetter 0 = .ok (.iload_n 0, 1) := by decide +kernel
theorem dX5_isLetter_1 : decode cX5_isLetter 1 = .ok (.bipush 97, 2) := by decide +kernel
theorem dX5_isLetter_3 : decode cX5_isLetter 3 = .ok (.if_icmp .lt 13, 3) := by decide +kernel
theorem dX5_isLetter_6 : decode cX5_isLetter 6 = .ok (.iload_n 0, 1) := by decide +kernel
theorem dX5_isLetter_7 : decode cX5_isLetter 7 = .ok (.bipush 122, 2) := by decide +kernel
theorem dX5_isLetter_9 : decode cX5_isLetter 9 = .ok (.if_icmp .gt 7, 3) := by decide +kernel
theorem dX5_isLetter_12 : decode cX5_isLetter 12 = .ok (.iconst 1, 1) := by decide +kernel
theorem dX5_isLetter_13 : decode cX5_isLetter 13 = .ok (.goto 4, 3) := by decide +kernel
theorem dX5_isLetter_16 : decode cX5_isLetter 16 = .ok (.iconst 0, 1) := by decide +kernel
theorem dX5_isLetter_17 : decode cX5_isLetter 17 = .ok (.ireturn, 1) := by decide +kernel
theorem dX5_isFigure_0 : decode cX5_isFigure 0 = .ok (.iload_n 0, 1) := by decide +kernel
theorem dX5_isFigure_1 : decode cX5_isFigure 1 = .ok (.bipush 48, 2) := by decide +kernel
theorem dX5_isFigure_3 : decode cX5_isFigure 3 = .ok (.if_icmp .lt 13, 3) := by decide +kernel
theorem dX5_isFigure_6 : decode cX5_isFigure 6 = .ok (.iload_n 0, 1) := by decide +kernel
theorem dX5_isFigure_7 : decode cX5_isFigure 7 = .ok (.bipush 57, 2) := by decide +kernel
theorem dX5_isFigure_9 : decode cX5_isFigure 9 = .ok (.if_icmp .gt 7, 3) := by decide +kernel
theorem dX5_isFigure_12 : decode cX5_isFigure 12 = .ok (.iconst 1, 1) := by decide +kernel
theorem dX5_isFigure_13 : decode cX5_isFigure 13 = .ok (.goto 4, 3) := by decide +kernel
theorem dX5_isFigure_16 : decode cX5_isFigure 16 = .ok (.iconst 0, 1) := by decide +kernel
theorem dX5_isFigure_17 : decode cX5_isFigure 17 = .ok (.ireturn, 1) := by decide +kernel
theorem dX6_init_0 : decode cX6_init 0 = .ok (.aload_n 0, 1) := by decide +kernel
theorem dX6_init_1 : decode cX6_init 1 = .ok (.invokespecial 3, 3) := by decide +kernel
theorem dX6_init_4 : decode cX6_init 4 = .ok (.aload_n 0, 1) := by decide +kernel
theorem dX6_init_5 : decode cX6_init 5 = .ok (.iconst 3, 1) := by decide +kernel
theorem dX6_init_6 : decode cX6_init 6 = .ok (.newarray .int, 2) := by decide +kernel
theorem dX6_init_8 : decode cX6_init 8 = .ok (.putfield 11, 3) := by decide +kernel
theorem dX6_init_11 : decode cX6_init 11 = .ok (.return_, 1) := by decide +kernel
theorem dX6_tell_0 : decode cX6_tell 0 = .ok (.aload_n 0, 1) := by decide +kernel
theorem dX6_tell_1 : decode cX6_tell 1 = .ok (.iconst 0, 1) := by decide +kernel
theorem dX6_tell_2 : decode cX6_tell 2 = .ok (.putfield 15, 3) := by decide +kernel
theorem dX6_tell_5 : decode cX6_tell 5 = .ok (.aload_n 0, 1) := by decide +kernel
theorem dX6_tell_6 : decode cX6_tell 6 = .ok (.iconst 0, 1) := by decide +kernel
theorem dX6_tell_7 : decode cX6_tell 7 = .ok (.putfield 19, 3) := by decide +kernel
theorem dX6_tell_10 : decode cX6_tell 10 = .ok (.aload_n 1, 1) := by decide +kernel
theorem dX6_tell_11 : decode cX6_tell 11 = .ok (.invokevirtual 22, 3) := by decide +kernel
theorem dX6_tell_14 : decode cX6_tell 14 = .ok (.iconst 0, 1) := by decide +kernel
theorem dX6_tell_15 : decode cX6_tell 15 = .ok (.istore_n 3, 1) := by decide +kernel
theorem dX6_tell_16 : decode cX6_tell 16 = .ok (.iload_n 3, 1) := by decide +kernel
theorem dX6_tell_17 : decode cX6_tell 17 = .ok (.sipush 320, 3) := by decide +kernel
theorem dX6_tell_20 : decode cX6_tell 20 = .ok (.if_icmp .gt 60, 3) := by decide +kernel
theorem dX6_tell_23 : decode cX6_tell 23 = .ok (.aload_n 1, 1) := by decide +kernel
theorem dX6_tell_24 : decode cX6_tell 24 = .ok (.invokevirtual 27, 3) := by decide +kernel
theorem dX6_tell_27 : decode cX6_tell 27 = .ok (.aload_n 1, 1) := by decide +kernel
theorem dX6_tell_28 : decode cX6_tell 28 = .ok (.getfield 30, 3) := by decide +kernel
theorem dX6_tell_31 : decode cX6_tell 31 = .ok (.iconst 4, 1) := by decide +kernel
theorem dX6_tell_32 : decode cX6_tell 32 = .ok (.if_icmp .ne 25, 3) := by decide +kernel
theorem dX6_tell_35 : decode cX6_tell 35 = .ok (.aload_n 2, 1) := by decide +kernel
theorem dX6_tell_36 : decode cX6_tell 36 = .ok (.invokevirtual 33, 3) := by decide +kernel
theorem dX6_tell_39 : decode cX6_tell 39 = .ok (.ifCond .eq 7, 3) := by decide +kernel
theorem dX6_tell_42 : decode cX6_tell 42 = .ok (.iload_n 3, 1) := by decide +kernel
theorem dX6_tell_43 : decode cX6_tell 43 = .ok (.goto 13, 3) := by decide +kernel
theorem dX6_tell_46 : decode cX6_tell 46 = .ok (.aload_n 0, 1) := by decide +kernel
theorem dX6_tell_47 : decode cX6_tell 47 = .ok (.bipush 6, 2) := by decide +kernel
theorem dX6_tell_49 : decode cX6_tell 49 = .ok (.aload_n 1, 1) := by decide +kernel
theorem dX6_tell_50 : decode cX6_tell 50 = .ok (.getfield 39, 3) := by decide +kernel
theorem dX6_tell_53 : decode cX6_tell 53 = .ok (.invokevirtual 42, 3) := by decide +kernel
theorem dX6_tell_56 : decode cX6_tell 56 = .ok (.ireturn, 1) := by decide +kernel
theorem dX6_tell_57 : decode cX6_tell 57 = .ok (.aload_n 0, 1) := by decide +kernel
theorem dX6_tell_58 : decode cX6_tell 58 = .ok (.aload_n 1, 1) := by decide +kernel
theorem dX6_tell_59 : decode cX6_tell 59 = .ok (.aload_n 2, 1) := by decide +kernel
theorem dX6_tell_60 : decode cX6_tell 60 = .ok (.invokevirtual 46, 3) := by decide +kernel
theorem dX6_tell_63 : decode cX6_tell 63 = .ok (.ifCond .ne 11, 3) := by decide +kernel
theorem dX6_tell_66 : decode cX6_tell 66 = .ok (.bipush (-10), 2) := by decide +kernel
theorem dX6_tell_68 : decode cX6_tell 68 = .ok (.aload_n 0, 1) := by decide +kernel
theorem dX6_tell_69 : decode cX6_tell 69 = .ok (.getfield 50, 3) := by decide +kernel
theorem dX6_tell_72 : decode cX6_tell 72 = .ok (.isub, 1) := by decide +kernel
theorem dX6_tell_73 : decode cX6_tell 73 = .ok (.ireturn, 1) := by decide +kernel
theorem dX6_tell_74 : decode cX6_tell 74 = .ok (.iinc 3 1, 3) := by decide +kernel
theorem dX6_tell_77 : decode cX6_tell 77 = .ok (.goto (-61), 3) := by decide +kernel
theorem dX6_tell_80 : decode cX6_tell 80 = .ok (.aload_n 0, 1) := by decide +kernel
theorem dX6_tell_81 : decode cX6_tell 81 = .ok (.iconst 2, 1) := by decide +kernel
theorem dX6_tell_82 : decode cX6_tell 82 = .ok (.aload_n 1, 1) := by decide +kernel
theorem dX6_tell_83 : decode cX6_tell 83 = .ok (.getfield 39, 3) := by decide +kernel
theorem dX6_tell_86 : decode cX6_tell 86 = .ok (.invokevirtual 42, 3) := by decide +kernel
theorem dX6_tell_89 : decode cX6_tell 89 = .ok (.ireturn, 1) := by decide +kernel
theorem dX6_refuse_0 : decode cX6_refuse 0 = .ok (.aload_n 0, 1) := by decide +kernel
theorem dX6_refuse_1 : decode cX6_refuse 1 = .ok (.iload_n 1, 1) := by decide +kernel
theorem dX6_refuse_2 : decode cX6_refuse 2 = .ok (.putfield 15, 3) := by decide +kernel
theorem dX6_refuse_5 : decode cX6_refuse 5 = .ok (.aload_n 0, 1) := by decide +kernel
theorem dX6_refuse_6 : decode cX6_refuse 6 = .ok (.iload_n 2, 1) := by decide +kernel
theorem dX6_refuse_7 : decode cX6_refuse 7 = .ok (.putfield 50, 3) := by decide +kernel
theorem dX6_refuse_10 : decode cX6_refuse 10 = .ok (.bipush (-10), 2) := by decide +kernel
theorem dX6_refuse_12 : decode cX6_refuse 12 = .ok (.aload_n 0, 1) := by decide +kernel
theorem dX6_refuse_13 : decode cX6_refuse 13 = .ok (.getfield 50, 3) := by decide +kernel
theorem dX6_refuse_16 : decode cX6_refuse 16 = .ok (.isub, 1) := by decide +kernel
theorem dX6_refuse_17 : decode cX6_refuse 17 = .ok (.ireturn, 1) := by decide +kernel
theorem dX6_tellLine_0 : decode cX6_tellLine 0 = .ok (.aload_n 1, 1) := by decide +kernel
theorem dX6_tellLine_1 : decode cX6_tellLine 1 = .ok (.invokestatic 53, 3) := by decide +kernel
theorem dX6_tellLine_4 : decode cX6_tellLine 4 = .ok (.istore_n 3, 1) := by decide +kernel
theorem dX6_tellLine_5 : decode cX6_tellLine 5 = .ok (.iload_n 3, 1) := by decide +kernel
theorem dX6_tellLine_6 : decode cX6_tellLine 6 = .ok (.ifCond .ge 9, 3) := by decide +kernel
theorem dX6_tellLine_9 : decode cX6_tellLine 9 = .ok (.aload_n 0, 1) := by decide +kernel
theorem dX6_tellLine_10 : decode cX6_tellLine 10 = .ok (.aload_n 1, 1) := by decide +kernel
theorem dX6_tellLine_11 : decode cX6_tellLine 11 = .ok (.invokevirtual 57, 3) := by decide +kernel
theorem dX6_tellLine_14 : decode cX6_tellLine 14 = .ok (.ireturn, 1) := by decide +kernel
theorem dX6_tellLine_15 : decode cX6_tellLine 15 = .ok (.aload_n 0, 1) := by decide +kernel
theorem dX6_tellLine_16 : decode cX6_tellLine 16 = .ok (.getfield 19, 3) := by decide +kernel
theorem dX6_tellLine_19 : decode cX6_tellLine 19 = .ok (.iload_n 3, 1) := by decide +kernel
theorem dX6_tellLine_20 : decode cX6_tellLine 20 = .ok (.ishr, 1) := by decide +kernel
theorem dX6_tellLine_21 : decode cX6_tellLine 21 = .ok (.iconst 1, 1) := by decide +kernel
theorem dX6_tellLine_22 : decode cX6_tellLine 22 = .ok (.iand, 1) := by decide +kernel
theorem dX6_tellLine_23 : decode cX6_tellLine 23 = .ok (.ifCond .eq 15, 3) := by decide +kernel
theorem dX6_tellLine_26 : decode cX6_tellLine 26 = .ok (.aload_n 0, 1) := by decide +kernel
theorem dX6_tellLine_27 : decode cX6_tellLine 27 = .ok (.iconst 4, 1) := by decide +kernel
theorem dX6_tellLine_28 : decode cX6_tellLine 28 = .ok (.aload_n 1, 1) := by decide +kernel
theorem dX6_tellLine_29 : decode cX6_tellLine 29 = .ok (.getfield 61, 3) := by decide +kernel
theorem dX6_tellLine_32 : decode cX6_tellLine 32 = .ok (.invokevirtual 42, 3) := by decide +kernel
theorem dX6_tellLine_35 : decode cX6_tellLine 35 = .ok (.pop, 1) := by decide +kernel
theorem dX6_tellLine_36 : decode cX6_tellLine 36 = .ok (.iconst 0, 1) := by decide +kernel
theorem dX6_tellLine_37 : decode cX6_tellLine 37 = .ok (.ireturn, 1) := by decide +kernel
theorem dX6_tellLine_38 : decode cX6_tellLine 38 = .ok (.iload_n 3, 1) := by decide +kernel
theorem dX6_tellLine_39 : decode cX6_tellLine 39 = .ok (.aload_n 2, 1) := by decide +kernel
theorem dX6_tellLine_40 : decode cX6_tellLine 40 = .ok (.invokestatic 64, 3) := by decide +kernel
theorem dX6_tellLine_43 : decode cX6_tellLine 43 = .ok (.ifCond .eq 15, 3) := by decide +kernel
theorem dX6_tellLine_46 : decode cX6_tellLine 46 = .ok (.aload_n 0, 1) := by decide +kernel
theorem dX6_tellLine_47 : decode cX6_tellLine 47 = .ok (.iconst 5, 1) := by decide +kernel
theorem dX6_tellLine_48 : decode cX6_tellLine 48 = .ok (.aload_n 1, 1) := by decide +kernel
theorem dX6_tellLine_49 : decode cX6_tellLine 49 = .ok (.getfield 61, 3) := by decide +kernel
theorem dX6_tellLine_52 : decode cX6_tellLine 52 = .ok (.invokevirtual 42, 3) := by decide +kernel
theorem dX6_tellLine_55 : decode cX6_tellLine 55 = .ok (.pop, 1) := by decide +kernel
theorem dX6_tellLine_56 : decode cX6_tellLine 56 = .ok (.iconst 0, 1) := by decide +kernel
theorem dX6_tellLine_57 : decode cX6_tellLine 57 = .ok (.ireturn, 1) := by decide +kernel
theorem dX6_tellLine_58 : decode cX6_tellLine 58 = .ok (.iconst 0, 1) := by decide +kernel
theorem dX6_tellLine_59 : decode cX6_tellLine 59 = .ok (.istore 4, 2) := by decide +kernel
theorem dX6_tellLine_61 : decode cX6_tellLine 61 = .ok (.iload 4, 2) := by decide +kernel
theorem dX6_tellLine_63 : decode cX6_tellLine 63 = .ok (.getstatic 68, 3) := by decide +kernel
theorem dX6_tellLine_66 : decode cX6_tellLine 66 = .ok (.iload_n 3, 1) := by decide +kernel
theorem dX6_tellLine_67 : decode cX6_tellLine 67 = .ok (.iaload, 1) := by decide +kernel
theorem dX6_tellLine_68 : decode cX6_tellLine 68 = .ok (.if_icmp .ge 23, 3) := by decide +kernel
theorem dX6_tellLine_71 : decode cX6_tellLine 71 = .ok (.aload_n 0, 1) := by decide +kernel
theorem dX6_tellLine_72 : decode cX6_tellLine 72 = .ok (.aload_n 1, 1) := by decide +kernel
theorem dX6_tellLine_73 : decode cX6_tellLine 73 = .ok (.aload_n 2, 1) := by decide +kernel
theorem dX6_tellLine_74 : decode cX6_tellLine 74 = .ok (.iload_n 3, 1) := by decide +kernel
theorem dX6_tellLine_75 : decode cX6_tellLine 75 = .ok (.iload 4, 2) := by decide +kernel
theorem dX6_tellLine_77 : decode cX6_tellLine 77 = .ok (.invokevirtual 71, 3) := by decide +kernel
theorem dX6_tellLine_80 : decode cX6_tellLine 80 = .ok (.ifCond .ne 5, 3) := by decide +kernel
theorem dX6_tellLine_83 : decode cX6_tellLine 83 = .ok (.iconst 0, 1) := by decide +kernel
theorem dX6_tellLine_84 : decode cX6_tellLine 84 = .ok (.ireturn, 1) := by decide +kernel
theorem dX6_tellLine_85 : decode cX6_tellLine 85 = .ok (.iinc 4 1, 3) := by decide +kernel
theorem dX6_tellLine_88 : decode cX6_tellLine 88 = .ok (.goto (-27), 3) := by decide +kernel
theorem dX6_tellLine_91 : decode cX6_tellLine 91 = .ok (.aload_n 1, 1) := by decide +kernel
theorem dX6_tellLine_92 : decode cX6_tellLine 92 = .ok (.invokevirtual 27, 3) := by decide +kernel
theorem dX6_tellLine_95 : decode cX6_tellLine 95 = .ok (.aload_n 1, 1) := by decide +kernel
theorem dX6_tellLine_96 : decode cX6_tellLine 96 = .ok (.getfield 30, 3) := by decide +kernel
theorem dX6_tellLine_99 : decode cX6_tellLine 99 = .ok (.iconst 3, 1) := by decide +kernel
theorem dX6_tellLine_100 : decode cX6_tellLine 100 = .ok (.if_icmp .eq 9, 3) := by decide +kernel
theorem dX6_tellLine_103 : decode cX6_tellLine 103 = .ok (.aload_n 0, 1) := by decide +kernel
theorem dX6_tellLine_104 : decode cX6_tellLine 104 = .ok (.aload_n 1, 1) := by decide +kernel
theorem dX6_tellLine_105 : decode cX6_tellLine 105 = .ok (.invokevirtual 57, 3) := by decide +kernel
theorem dX6_tellLine_108 : decode cX6_tellLine 108 = .ok (.ireturn, 1) := by decide +kernel
theorem dX6_tellLine_109 : decode cX6_tellLine 109 = .ok (.iload_n 3, 1) := by decide +kernel
theorem dX6_tellLine_110 : decode cX6_tellLine 110 = .ok (.iconst 3, 1) := by decide +kernel
theorem dX6_tellLine_111 : decode cX6_tellLine 111 = .ok (.if_icmp .gt 15, 3) := by decide +kernel
theorem dX6_tellLine_114 : decode cX6_tellLine 114 = .ok (.aload_n 0, 1) := by decide +kernel
theorem dX6_tellLine_115 : decode cX6_tellLine 115 = .ok (.dup, 1) := by decide +kernel
theorem dX6_tellLine_116 : decode cX6_tellLine 116 = .ok (.getfield 19, 3) := by decide +kernel
theorem dX6_tellLine_119 : decode cX6_tellLine 119 = .ok (.iconst 1, 1) := by decide +kernel
theorem dX6_tellLine_120 : decode cX6_tellLine 120 = .ok (.iload_n 3, 1) := by decide +kernel
theorem dX6_tellLine_121 : decode cX6_tellLine 121 = .ok (.ishl, 1) := by decide +kernel
theorem dX6_tellLine_122 : decode cX6_tellLine 122 = .ok (.ior, 1) := by decide +kernel
theorem dX6_tellLine_123 : decode cX6_tellLine 123 = .ok (.putfield 19, 3) := by decide +kernel
theorem dX6_tellLine_126 : decode cX6_tellLine 126 = .ok (.aload_n 0, 1) := by decide +kernel
theorem dX6_tellLine_127 : decode cX6_tellLine 127 = .ok (.aload_n 2, 1) := by decide +kernel
theorem dX6_tellLine_128 : decode cX6_tellLine 128 = .ok (.iload_n 3, 1) := by decide +kernel
theorem dX6_tellLine_129 : decode cX6_tellLine 129 = .ok (.invokevirtual 75, 3) := by decide +kernel
theorem dX6_tellLine_132 : decode cX6_tellLine 132 = .ok (.iconst 1, 1) := by decide +kernel
theorem dX6_tellLine_133 : decode cX6_tellLine 133 = .ok (.ireturn, 1) := by decide +kernel
theorem dX6_misplaced_0 : decode cX6_misplaced 0 = .ok (.aload_n 0, 1) := by decide +kernel
theorem dX6_misplaced_1 : decode cX6_misplaced 1 = .ok (.aload_n 1, 1) := by decide +kernel
theorem dX6_misplaced_2 : decode cX6_misplaced 2 = .ok (.getfield 30, 3) := by decide +kernel
theorem dX6_misplaced_5 : decode cX6_misplaced 5 = .ok (.ifCond .ne 7, 3) := by decide +kernel
theorem dX6_misplaced_8 : decode cX6_misplaced 8 = .ok (.iconst 1, 1) := by decide +kernel
theorem dX6_misplaced_9 : decode cX6_misplaced 9 = .ok (.goto 4, 3) := by decide +kernel
theorem dX6_misplaced_12 : decode cX6_misplaced 12 = .ok (.iconst 2, 1) := by decide +kernel
theorem dX6_misplaced_13 : decode cX6_misplaced 13 = .ok (.aload_n 1, 1) := by decide +kernel
theorem dX6_misplaced_14 : decode cX6_misplaced 14 = .ok (.getfield 61, 3) := by decide +kernel
theorem dX6_misplaced_17 : decode cX6_misplaced 17 = .ok (.invokevirtual 42, 3) := by decide +kernel
theorem dX6_misplaced_20 : decode cX6_misplaced 20 = .ok (.pop, 1) := by decide +kernel
theorem dX6_misplaced_21 : decode cX6_misplaced 21 = .ok (.iconst 0, 1) := by decide +kernel
theorem dX6_misplaced_22 : decode cX6_misplaced 22 = .ok (.ireturn, 1) := by decide +kernel
theorem dX6_lineOfName_0 : decode cX6_lineOfName 0 = .ok (.iconst 0, 1) := by decide +kernel
theorem dX6_lineOfName_1 : decode cX6_lineOfName 1 = .ok (.istore_n 1, 1) := by decide +kernel
theorem dX6_lineOfName_2 : decode cX6_lineOfName 2 = .ok (.iload_n 1, 1) := by decide +kernel
theorem dX6_lineOfName_3 : decode cX6_lineOfName 3 = .ok (.bipush 7, 2) := by decide +kernel
theorem dX6_lineOfName_5 : decode cX6_lineOfName 5 = .ok (.if_icmp .ge 22, 3) := by decide +kernel
theorem dX6_lineOfName_8 : decode cX6_lineOfName 8 = .ok (.aload_n 0, 1) := by decide +kernel
theorem dX6_lineOfName_9 : decode cX6_lineOfName 9 = .ok (.iload_n 1, 1) := by decide +kernel
theorem dX6_lineOfName_10 : decode cX6_lineOfName 10 = .ok (.invokestatic 79, 3) := by decide +kernel
theorem dX6_lineOfName_13 : decode cX6_lineOfName 13 = .ok (.invokevirtual 83, 3) := by decide +kernel
theorem dX6_lineOfName_16 : decode cX6_lineOfName 16 = .ok (.ifCond .eq 5, 3) := by decide +kernel
theorem dX6_lineOfName_19 : decode cX6_lineOfName 19 = .ok (.iload_n 1, 1) := by decide +kernel
theorem dX6_lineOfName_20 : decode cX6_lineOfName 20 = .ok (.ireturn, 1) := by decide +kernel
theorem dX6_lineOfName_21 : decode cX6_lineOfName 21 = .ok (.iinc 1 1, 3) := by decide +kernel
theorem dX6_lineOfName_24 : decode cX6_lineOfName 24 = .ok (.goto (-22), 3) := by decide +kernel
theorem dX6_lineOfName_27 : decode cX6_lineOfName 27 = .ok (.bipush (-4), 2) := by decide +kernel
theorem dX6_lineOfName_29 : decode cX6_lineOfName 29 = .ok (.ireturn, 1) := by decide +kernel
theorem dX6_nameOf_0 : decode cX6_nameOf 0 = .ok (.iload_n 0, 1) := by decide +kernel
theorem dX6_nameOf_1 : decode cX6_nameOf 1 = .ok (.tableswitch 57 0 5 #[39, 42, 45, 48, 51, 54], 39) := by decide +kernel
theorem dX6_nameOf_40 : decode cX6_nameOf 40 = .ok (.ldc 87, 2) := by decide +kernel
theorem dX6_nameOf_42 : decode cX6_nameOf 42 = .ok (.areturn, 1) := by decide +kernel
theorem dX6_nameOf_43 : decode cX6_nameOf 43 = .ok (.ldc 89, 2) := by decide +kernel
theorem dX6_nameOf_45 : decode cX6_nameOf 45 = .ok (.areturn, 1) := by decide +kernel
theorem dX6_nameOf_46 : decode cX6_nameOf 46 = .ok (.ldc 91, 2) := by decide +kernel
theorem dX6_nameOf_48 : decode cX6_nameOf 48 = .ok (.areturn, 1) := by decide +kernel
theorem dX6_nameOf_49 : decode cX6_nameOf 49 = .ok (.ldc 93, 2) := by decide +kernel
theorem dX6_nameOf_51 : decode cX6_nameOf 51 = .ok (.areturn, 1) := by decide +kernel
theorem dX6_nameOf_52 : decode cX6_nameOf 52 = .ok (.ldc 95, 2) := by decide +kernel
theorem dX6_nameOf_54 : decode cX6_nameOf 54 = .ok (.areturn, 1) := by decide +kernel
theorem dX6_nameOf_55 : decode cX6_nameOf 55 = .ok (.ldc 97, 2) := by decide +kernel
theorem dX6_nameOf_57 : decode cX6_nameOf 57 = .ok (.areturn, 1) := by decide +kernel
theorem dX6_nameOf_58 : decode cX6_nameOf 58 = .ok (.ldc 99, 2) := by decide +kernel
theorem dX6_nameOf_60 : decode cX6_nameOf 60 = .ok (.areturn, 1) := by decide +kernel
theorem dX6_isFull_0 : decode cX6_isFull 0 = .ok (.iload_n 0, 1) := by decide +kernel
theorem dX6_isFull_1 : decode cX6_isFull 1 = .ok (.tableswitch 71 4 6 #[27, 42, 56], 27) := by decide +kernel
theorem dX6_isFull_28 : decode cX6_isFull 28 = .ok (.aload_n 1, 1) := by decide +kernel
theorem dX6_isFull_29 : decode cX6_isFull 29 = .ok (.getfield 101, 3) := by decide +kernel
theorem dX6_isFull_32 : decode cX6_isFull 32 = .ok (.bipush 6, 2) := by decide +kernel
theorem dX6_isFull_34 : decode cX6_isFull 34 = .ok (.if_icmp .lt 7, 3) := by decide +kernel
theorem dX6_isFull_37 : decode cX6_isFull 37 = .ok (.iconst 1, 1) := by decide +kernel
theorem dX6_isFull_38 : decode cX6_isFull 38 = .ok (.goto 4, 3) := by decide +kernel
theorem dX6_isFull_41 : decode cX6_isFull 41 = .ok (.iconst 0, 1) := by decide +kernel
theorem dX6_isFull_42 : decode cX6_isFull 42 = .ok (.ireturn, 1) := by decide +kernel
theorem dX6_isFull_43 : decode cX6_isFull 43 = .ok (.aload_n 1, 1) := by decide +kernel
theorem dX6_isFull_44 : decode cX6_isFull 44 = .ok (.getfield 104, 3) := by decide +kernel
theorem dX6_isFull_47 : decode cX6_isFull 47 = .ok (.iconst 3, 1) := by decide +kernel
theorem dX6_isFull_48 : decode cX6_isFull 48 = .ok (.if_icmp .lt 7, 3) := by decide +kernel
theorem dX6_isFull_51 : decode cX6_isFull 51 = .ok (.iconst 1, 1) := by decide +kernel
theorem dX6_isFull_52 : decode cX6_isFull 52 = .ok (.goto 4, 3) := by decide +kernel
theorem dX6_isFull_55 : decode cX6_isFull 55 = .ok (.iconst 0, 1) := by decide +kernel
theorem dX6_isFull_56 : decode cX6_isFull 56 = .ok (.ireturn, 1) := by decide +kernel
theorem dX6_isFull_57 : decode cX6_isFull 57 = .ok (.aload_n 1, 1) := by decide +kernel
theorem dX6_isFull_58 : decode cX6_isFull 58 = .ok (.getfield 107, 3) := by decide +kernel
theorem dX6_isFull_61 : decode cX6_isFull 61 = .ok (.bipush 12, 2) := by decide +kernel
theorem dX6_isFull_63 : decode cX6_isFull 63 = .ok (.if_icmp .lt 7, 3) := by decide +kernel
theorem dX6_isFull_66 : decode cX6_isFull 66 = .ok (.iconst 1, 1) := by decide +kernel
theorem dX6_isFull_67 : decode cX6_isFull 67 = .ok (.goto 4, 3) := by decide +kernel
theorem dX6_isFull_70 : decode cX6_isFull 70 = .ok (.iconst 0, 1) := by decide +kernel
theorem dX6_isFull_71 : decode cX6_isFull 71 = .ok (.ireturn, 1) := by decide +kernel
theorem dX6_isFull_72 : decode cX6_isFull 72 = .ok (.iconst 0, 1) := by decide +kernel
theorem dX6_isFull_73 : decode cX6_isFull 73 = .ok (.ireturn, 1) := by decide +kernel
theorem dX6_takeNumber_0 : decode cX6_takeNumber 0 = .ok (.aload_n 1, 1) := by decide +kernel
theorem dX6_takeNumber_1 : decode cX6_takeNumber 1 = .ok (.invokevirtual 27, 3) := by decide +kernel
theorem dX6_takeNumber_4 : decode cX6_takeNumber 4 = .ok (.aload_n 1, 1) := by decide +kernel
theorem dX6_takeNumber_5 : decode cX6_takeNumber 5 = .ok (.getfield 30, 3) := by decide +kernel
theorem dX6_takeNumber_8 : decode cX6_takeNumber 8 = .ok (.iconst 2, 1) := by decide +kernel
theorem dX6_takeNumber_9 : decode cX6_takeNumber 9 = .ok (.if_icmp .eq 9, 3) := by decide +kernel
theorem dX6_takeNumber_12 : decode cX6_takeNumber 12 = .ok (.aload_n 0, 1) := by decide +kernel
theorem dX6_takeNumber_13 : decode cX6_takeNumber 13 = .ok (.aload_n 1, 1) := by decide +kernel
theorem dX6_takeNumber_14 : decode cX6_takeNumber 14 = .ok (.invokevirtual 57, 3) := by decide +kernel
theorem dX6_takeNumber_17 : decode cX6_takeNumber 17 = .ok (.ireturn, 1) := by decide +kernel
theorem dX6_takeNumber_18 : decode cX6_takeNumber 18 = .ok (.iload_n 3, 1) := by decide +kernel
theorem dX6_takeNumber_19 : decode cX6_takeNumber 19 = .ok (.bipush 6, 2) := by decide +kernel
theorem dX6_takeNumber_21 : decode cX6_takeNumber 21 = .ok (.if_icmp .ne 12, 3) := by decide +kernel
theorem dX6_takeNumber_24 : decode cX6_takeNumber 24 = .ok (.iload 4, 2) := by decide +kernel
theorem dX6_takeNumber_26 : decode cX6_takeNumber 26 = .ok (.ifCond .ne 7, 3) := by decide +kernel
theorem dX6_takeNumber_29 : decode cX6_takeNumber 29 = .ok (.iconst 1, 1) := by decide +kernel
theorem dX6_takeNumber_30 : decode cX6_takeNumber 30 = .ok (.goto 4, 3) := by decide +kernel
theorem dX6_takeNumber_33 : decode cX6_takeNumber 33 = .ok (.iconst 0, 1) := by decide +kernel
theorem dX6_takeNumber_34 : decode cX6_takeNumber 34 = .ok (.istore 5, 2) := by decide +kernel
theorem dX6_takeNumber_36 : decode cX6_takeNumber 36 = .ok (.iload 5, 2) := by decide +kernel
theorem dX6_takeNumber_38 : decode cX6_takeNumber 38 = .ok (.ifCond .eq 10, 3) := by decide +kernel
theorem dX6_takeNumber_41 : decode cX6_takeNumber 41 = .ok (.aload_n 2, 1) := by decide +kernel
theorem dX6_takeNumber_42 : decode cX6_takeNumber 42 = .ok (.invokevirtual 110, 3) := by decide +kernel
theorem dX6_takeNumber_45 : decode cX6_takeNumber 45 = .ok (.goto 13, 3) := by decide +kernel
theorem dX6_takeNumber_48 : decode cX6_takeNumber 48 = .ok (.getstatic 114, 3) := by decide +kernel
theorem dX6_takeNumber_51 : decode cX6_takeNumber 51 = .ok (.iconst 3, 1) := by decide +kernel
theorem dX6_takeNumber_52 : decode cX6_takeNumber 52 = .ok (.iload_n 3, 1) := by decide +kernel
theorem dX6_takeNumber_53 : decode cX6_takeNumber 53 = .ok (.imul, 1) := by decide +kernel
theorem dX6_takeNumber_54 : decode cX6_takeNumber 54 = .ok (.iload 4, 2) := by decide +kernel
theorem dX6_takeNumber_56 : decode cX6_takeNumber 56 = .ok (.iadd, 1) := by decide +kernel
theorem dX6_takeNumber_57 : decode cX6_takeNumber 57 = .ok (.iaload, 1) := by decide +kernel
theorem dX6_takeNumber_58 : decode cX6_takeNumber 58 = .ok (.istore 6, 2) := by decide +kernel
theorem dX6_takeNumber_60 : decode cX6_takeNumber 60 = .ok (.aload_n 1, 1) := by decide +kernel
theorem dX6_takeNumber_61 : decode cX6_takeNumber 61 = .ok (.getfield 117, 3) := by decide +kernel
theorem dX6_takeNumber_64 : decode cX6_takeNumber 64 = .ok (.iload 6, 2) := by decide +kernel
theorem dX6_takeNumber_66 : decode cX6_takeNumber 66 = .ok (.if_icmp .lt 20, 3) := by decide +kernel
theorem dX6_takeNumber_69 : decode cX6_takeNumber 69 = .ok (.aload_n 1, 1) := by decide +kernel
theorem dX6_takeNumber_70 : decode cX6_takeNumber 70 = .ok (.getfield 117, 3) := by decide +kernel
theorem dX6_takeNumber_73 : decode cX6_takeNumber 73 = .ok (.getstatic 120, 3) := by decide +kernel
theorem dX6_takeNumber_76 : decode cX6_takeNumber 76 = .ok (.iconst 3, 1) := by decide +kernel
theorem dX6_takeNumber_77 : decode cX6_takeNumber 77 = .ok (.iload_n 3, 1) := by decide +kernel
theorem dX6_takeNumber_78 : decode cX6_takeNumber 78 = .ok (.imul, 1) := by decide +kernel
theorem dX6_takeNumber_79 : decode cX6_takeNumber 79 = .ok (.iload 4, 2) := by decide +kernel
theorem dX6_takeNumber_81 : decode cX6_takeNumber 81 = .ok (.iadd, 1) := by decide +kernel
theorem dX6_takeNumber_82 : decode cX6_takeNumber 82 = .ok (.iaload, 1) := by decide +kernel
theorem dX6_takeNumber_83 : decode cX6_takeNumber 83 = .ok (.if_icmp .le 15, 3) := by decide +kernel
theorem dX6_takeNumber_86 : decode cX6_takeNumber 86 = .ok (.aload_n 0, 1) := by decide +kernel
theorem dX6_takeNumber_87 : decode cX6_takeNumber 87 = .ok (.iconst 3, 1) := by decide +kernel
theorem dX6_takeNumber_88 : decode cX6_takeNumber 88 = .ok (.aload_n 1, 1) := by decide +kernel
theorem dX6_takeNumber_89 : decode cX6_takeNumber 89 = .ok (.getfield 61, 3) := by decide +kernel
theorem dX6_takeNumber_92 : decode cX6_takeNumber 92 = .ok (.invokevirtual 42, 3) := by decide +kernel
theorem dX6_takeNumber_95 : decode cX6_takeNumber 95 = .ok (.pop, 1) := by decide +kernel
theorem dX6_takeNumber_96 : decode cX6_takeNumber 96 = .ok (.iconst 0, 1) := by decide +kernel
theorem dX6_takeNumber_97 : decode cX6_takeNumber 97 = .ok (.ireturn, 1) := by decide +kernel
theorem dX6_takeNumber_98 : decode cX6_takeNumber 98 = .ok (.aload_n 0, 1) := by decide +kernel
theorem dX6_takeNumber_99 : decode cX6_takeNumber 99 = .ok (.getfield 11, 3) := by decide +kernel
theorem dX6_takeNumber_102 : decode cX6_takeNumber 102 = .ok (.iload 4, 2) := by decide +kernel
theorem dX6_takeNumber_104 : decode cX6_takeNumber 104 = .ok (.aload_n 1, 1) := by decide +kernel
theorem dX6_takeNumber_105 : decode cX6_takeNumber 105 = .ok (.getfield 117, 3) := by decide +kernel
theorem dX6_takeNumber_108 : decode cX6_takeNumber 108 = .ok (.iastore, 1) := by decide +kernel
theorem dX6_takeNumber_109 : decode cX6_takeNumber 109 = .ok (.iconst 1, 1) := by decide +kernel
theorem dX6_takeNumber_110 : decode cX6_takeNumber 110 = .ok (.ireturn, 1) := by decide +kernel
theorem dX6_write_0 : decode cX6_write 0 = .ok (.iload_n 2, 1) := by decide +kernel
theorem dX6_write_1 : decode cX6_write 1 = .ok (.tableswitch 167 0 5 #[39, 66, 81, 96, 123, 148], 39) := by decide +kernel
theorem dX6_write_40 : decode cX6_write 40 = .ok (.aload_n 1, 1) := by decide +kernel
theorem dX6_write_41 : decode cX6_write 41 = .ok (.getfield 123, 3) := by decide +kernel
theorem dX6_write_44 : decode cX6_write 44 = .ok (.iconst 0, 1) := by decide +kernel
theorem dX6_write_45 : decode cX6_write 45 = .ok (.aload_n 0, 1) := by decide +kernel
theorem dX6_write_46 : decode cX6_write 46 = .ok (.getfield 11, 3) := by decide +kernel
theorem dX6_write_49 : decode cX6_write 49 = .ok (.iconst 0, 1) := by decide +kernel
theorem dX6_write_50 : decode cX6_write 50 = .ok (.iaload, 1) := by decide +kernel
theorem dX6_write_51 : decode cX6_write 51 = .ok (.iastore, 1) := by decide +kernel
theorem dX6_write_52 : decode cX6_write 52 = .ok (.aload_n 1, 1) := by decide +kernel
theorem dX6_write_53 : decode cX6_write 53 = .ok (.getfield 123, 3) := by decide +kernel
theorem dX6_write_56 : decode cX6_write 56 = .ok (.iconst 1, 1) := by decide +kernel
theorem dX6_write_57 : decode cX6_write 57 = .ok (.aload_n 0, 1) := by decide +kernel
theorem dX6_write_58 : decode cX6_write 58 = .ok (.getfield 11, 3) := by decide +kernel
theorem dX6_write_61 : decode cX6_write 61 = .ok (.iconst 1, 1) := by decide +kernel
theorem dX6_write_62 : decode cX6_write 62 = .ok (.iaload, 1) := by decide +kernel
theorem dX6_write_63 : decode cX6_write 63 = .ok (.iastore, 1) := by decide +kernel
theorem dX6_write_64 : decode cX6_write 64 = .ok (.goto 120, 3) := by decide +kernel
theorem dX6_write_67 : decode cX6_write 67 = .ok (.aload_n 1, 1) := by decide +kernel
theorem dX6_write_68 : decode cX6_write 68 = .ok (.getfield 123, 3) := by decide +kernel
theorem dX6_write_71 : decode cX6_write 71 = .ok (.iconst 2, 1) := by decide +kernel
theorem dX6_write_72 : decode cX6_write 72 = .ok (.aload_n 0, 1) := by decide +kernel
theorem dX6_write_73 : decode cX6_write 73 = .ok (.getfield 11, 3) := by decide +kernel
theorem dX6_write_76 : decode cX6_write 76 = .ok (.iconst 0, 1) := by decide +kernel
theorem dX6_write_77 : decode cX6_write 77 = .ok (.iaload, 1) := by decide +kernel
theorem dX6_write_78 : decode cX6_write 78 = .ok (.iastore, 1) := by decide +kernel
theorem dX6_write_79 : decode cX6_write 79 = .ok (.goto 105, 3) := by decide +kernel
theorem dX6_write_82 : decode cX6_write 82 = .ok (.aload_n 1, 1) := by decide +kernel
theorem dX6_write_83 : decode cX6_write 83 = .ok (.getfield 123, 3) := by decide +kernel
theorem dX6_write_86 : decode cX6_write 86 = .ok (.iconst 3, 1) := by decide +kernel
theorem dX6_write_87 : decode cX6_write 87 = .ok (.aload_n 0, 1) := by decide +kernel
theorem dX6_write_88 : decode cX6_write 88 = .ok (.getfield 11, 3) := by decide +kernel
theorem dX6_write_91 : decode cX6_write 91 = .ok (.iconst 0, 1) := by decide +kernel
theorem dX6_write_92 : decode cX6_write 92 = .ok (.iaload, 1) := by decide +kernel
theorem dX6_write_93 : decode cX6_write 93 = .ok (.iastore, 1) := by decide +kernel
theorem dX6_write_94 : decode cX6_write 94 = .ok (.goto 90, 3) := by decide +kernel
theorem dX6_write_97 : decode cX6_write 97 = .ok (.aload_n 1, 1) := by decide +kernel
theorem dX6_write_98 : decode cX6_write 98 = .ok (.getfield 123, 3) := by decide +kernel
theorem dX6_write_101 : decode cX6_write 101 = .ok (.iconst 4, 1) := by decide +kernel
theorem dX6_write_102 : decode cX6_write 102 = .ok (.aload_n 0, 1) := by decide +kernel
theorem dX6_write_103 : decode cX6_write 103 = .ok (.getfield 11, 3) := by decide +kernel
theorem dX6_write_106 : decode cX6_write 106 = .ok (.iconst 0, 1) := by decide +kernel
theorem dX6_write_107 : decode cX6_write 107 = .ok (.iaload, 1) := by decide +kernel
theorem dX6_write_108 : decode cX6_write 108 = .ok (.iastore, 1) := by decide +kernel
theorem dX6_write_109 : decode cX6_write 109 = .ok (.aload_n 1, 1) := by decide +kernel
theorem dX6_write_110 : decode cX6_write 110 = .ok (.getfield 123, 3) := by decide +kernel
theorem dX6_write_113 : decode cX6_write 113 = .ok (.iconst 5, 1) := by decide +kernel
theorem dX6_write_114 : decode cX6_write 114 = .ok (.aload_n 0, 1) := by decide +kernel
theorem dX6_write_115 : decode cX6_write 115 = .ok (.getfield 11, 3) := by decide +kernel
theorem dX6_write_118 : decode cX6_write 118 = .ok (.iconst 1, 1) := by decide +kernel
theorem dX6_write_119 : decode cX6_write 119 = .ok (.iaload, 1) := by decide +kernel
theorem dX6_write_120 : decode cX6_write 120 = .ok (.iastore, 1) := by decide +kernel
theorem dX6_write_121 : decode cX6_write 121 = .ok (.goto 63, 3) := by decide +kernel
theorem dX6_write_124 : decode cX6_write 124 = .ok (.aload_n 1, 1) := by decide +kernel
theorem dX6_write_125 : decode cX6_write 125 = .ok (.aload_n 0, 1) := by decide +kernel
theorem dX6_write_126 : decode cX6_write 126 = .ok (.getfield 11, 3) := by decide +kernel
theorem dX6_write_129 : decode cX6_write 129 = .ok (.iconst 0, 1) := by decide +kernel
theorem dX6_write_130 : decode cX6_write 130 = .ok (.iaload, 1) := by decide +kernel
theorem dX6_write_131 : decode cX6_write 131 = .ok (.aload_n 0, 1) := by decide +kernel
theorem dX6_write_132 : decode cX6_write 132 = .ok (.getfield 11, 3) := by decide +kernel
theorem dX6_write_135 : decode cX6_write 135 = .ok (.iconst 1, 1) := by decide +kernel
theorem dX6_write_136 : decode cX6_write 136 = .ok (.iaload, 1) := by decide +kernel
theorem dX6_write_137 : decode cX6_write 137 = .ok (.aload_n 0, 1) := by decide +kernel
theorem dX6_write_138 : decode cX6_write 138 = .ok (.getfield 11, 3) := by decide +kernel
theorem dX6_write_141 : decode cX6_write 141 = .ok (.iconst 2, 1) := by decide +kernel
theorem dX6_write_142 : decode cX6_write 142 = .ok (.iaload, 1) := by decide +kernel
theorem dX6_write_143 : decode cX6_write 143 = .ok (.invokevirtual 126, 3) := by decide +kernel
theorem dX6_write_146 : decode cX6_write 146 = .ok (.goto 38, 3) := by decide +kernel
theorem dX6_write_149 : decode cX6_write 149 = .ok (.aload_n 1, 1) := by decide +kernel
theorem dX6_write_150 : decode cX6_write 150 = .ok (.aload_n 0, 1) := by decide +kernel
theorem dX6_write_151 : decode cX6_write 151 = .ok (.getfield 11, 3) := by decide +kernel
theorem dX6_write_154 : decode cX6_write 154 = .ok (.iconst 0, 1) := by decide +kernel
theorem dX6_write_155 : decode cX6_write 155 = .ok (.iaload, 1) := by decide +kernel
theorem dX6_write_156 : decode cX6_write 156 = .ok (.aload_n 0, 1) := by decide +kernel
theorem dX6_write_157 : decode cX6_write 157 = .ok (.getfield 11, 3) := by decide +kernel
theorem dX6_write_160 : decode cX6_write 160 = .ok (.iconst 1, 1) := by decide +kernel

/-! decode rows -/
theorem dX0_init_0 : decode cX0_init 0 = .ok (.aload_n 0, 1) := by decide +kernel
theorem dX0_init_1 : decode cX0_init 1 = .ok (.invokespecial 1, 3) := by decide +kernel
theorem dX0_init_4 : decode cX0_init 4 = .ok (.aload_n 0, 1) := by decide +kernel
theorem dX0_init_5 : decode cX0_init 5 = .ok (.bipush 10, 2) := by decide +kernel
theorem dX0_init_7 : decode cX0_init 7 = .ok (.newarray .int, 2) := by decide +kernel
theorem dX0_init_9 : decode cX0_init 9 = .ok (.putfield 9, 3) := by decide +kernel
theorem dX0_init_12 : decode cX0_init 12 = .ok (.aload_n 0, 1) := by decide +kernel
theorem dX0_init_13 : decode cX0_init 13 = .ok (.bipush 10, 2) := by decide +kernel
theorem dX0_init_15 : decode cX0_init 15 = .ok (.newarray .int, 2) := by decide +kernel
theorem dX0_init_17 : decode cX0_init 17 = .ok (.putfield 13, 3) := by decide +kernel
theorem dX0_init_20 : decode cX0_init 20 = .ok (.aload_n 0, 1) := by decide +kernel
theorem dX0_init_21 : decode cX0_init 21 = .ok (.bipush 10, 2) := by decide +kernel
theorem dX0_init_23 : decode cX0_init 23 = .ok (.newarray .int, 2) := by decide +kernel
theorem dX0_init_25 : decode cX0_init 25 = .ok (.putfield 16, 3) := by decide +kernel
theorem dX0_init_28 : decode cX0_init 28 = .ok (.aload_n 0, 1) := by decide +kernel
theorem dX0_init_29 : decode cX0_init 29 = .ok (.iconst 0, 1) := by decide +kernel
theorem dX0_init_30 : decode cX0_init 30 = .ok (.putfield 19, 3) := by decide +kernel
theorem dX0_init_33 : decode cX0_init 33 = .ok (.aload_n 0, 1) := by decide +kernel
theorem dX0_init_34 : decode cX0_init 34 = .ok (.iconst 0, 1) := by decide +kernel
theorem dX0_init_35 : decode cX0_init 35 = .ok (.putfield 23, 3) := by decide +kernel
theorem dX0_init_38 : decode cX0_init 38 = .ok (.return_, 1) := by decide +kernel
theorem dX0_count_0 : decode cX0_count 0 = .ok (.aload_n 0, 1) := by decide +kernel
theorem dX0_count_1 : decode cX0_count 1 = .ok (.getfield 23, 3) := by decide +kernel
theorem dX0_count_4 : decode cX0_count 4 = .ok (.ireturn, 1) := by decide +kernel
theorem dX0_forget_0 : decode cX0_forget 0 = .ok (.aload_n 0, 1) := by decide +kernel
theorem dX0_forget_1 : decode cX0_forget 1 = .ok (.iconst 0, 1) := by decide +kernel
theorem dX0_forget_2 : decode cX0_forget 2 = .ok (.putfield 23, 3) := by decide +kernel
theorem dX0_forget_5 : decode cX0_forget 5 = .ok (.return_, 1) := by decide +kernel
theorem dX0_keep_0 : decode cX0_keep 0 = .ok (.aload_n 0, 1) := by decide +kernel
theorem dX0_keep_1 : decode cX0_keep 1 = .ok (.getfield 19, 3) := by decide +kernel
theorem dX0_keep_4 : decode cX0_keep 4 = .ok (.aload_n 0, 1) := by decide +kernel
theorem dX0_keep_5 : decode cX0_keep 5 = .ok (.getfield 23, 3) := by decide +kernel
theorem dX0_keep_8 : decode cX0_keep 8 = .ok (.iadd, 1) := by decide +kernel
theorem dX0_keep_9 : decode cX0_keep 9 = .ok (.bipush 10, 2) := by decide +kernel
theorem dX0_keep_11 : decode cX0_keep 11 = .ok (.irem, 1) := by decide +kernel
theorem dX0_keep_12 : decode cX0_keep 12 = .ok (.istore 4, 2) := by decide +kernel
theorem dX0_keep_14 : decode cX0_keep 14 = .ok (.aload_n 0, 1) := by decide +kernel
theorem dX0_keep_15 : decode cX0_keep 15 = .ok (.getfield 9, 3) := by decide +kernel
theorem dX0_keep_18 : decode cX0_keep 18 = .ok (.iload 4, 2) := by decide +kernel
theorem dX0_keep_20 : decode cX0_keep 20 = .ok (.iload_n 1, 1) := by decide +kernel
theorem dX0_keep_21 : decode cX0_keep 21 = .ok (.iastore, 1) := by decide +kernel
theorem dX0_keep_22 : decode cX0_keep 22 = .ok (.aload_n 0, 1) := by decide +kernel
theorem dX0_keep_23 : decode cX0_keep 23 = .ok (.getfield 13, 3) := by decide +kernel
theorem dX0_keep_26 : decode cX0_keep 26 = .ok (.iload 4, 2) := by decide +kernel
theorem dX0_keep_28 : decode cX0_keep 28 = .ok (.iload_n 2, 1) := by decide +kernel
theorem dX0_keep_29 : decode cX0_keep 29 = .ok (.iastore, 1) := by decide +kernel
theorem dX0_keep_30 : decode cX0_keep 30 = .ok (.aload_n 0, 1) := by decide +kernel
theorem dX0_keep_31 : decode cX0_keep 31 = .ok (.getfield 16, 3) := by decide +kernel
theorem dX0_keep_34 : decode cX0_keep 34 = .ok (.iload 4, 2) := by decide +kernel
theorem dX0_keep_36 : decode cX0_keep 36 = .ok (.iload_n 3, 1) := by decide +kernel
theorem dX0_keep_37 : decode cX0_keep 37 = .ok (.iastore, 1) := by decide +kernel
theorem dX0_keep_38 : decode cX0_keep 38 = .ok (.aload_n 0, 1) := by decide +kernel
theorem dX0_keep_39 : decode cX0_keep 39 = .ok (.getfield 23, 3) := by decide +kernel
theorem dX0_keep_42 : decode cX0_keep 42 = .ok (.bipush 10, 2) := by decide +kernel
theorem dX0_keep_44 : decode cX0_keep 44 = .ok (.if_icmp .ge 16, 3) := by decide +kernel
theorem dX0_keep_47 : decode cX0_keep 47 = .ok (.aload_n 0, 1) := by decide +kernel
theorem dX0_keep_48 : decode cX0_keep 48 = .ok (.dup, 1) := by decide +kernel
theorem dX0_keep_49 : decode cX0_keep 49 = .ok (.getfield 23, 3) := by decide +kernel
theorem dX0_keep_52 : decode cX0_keep 52 = .ok (.iconst 1, 1) := by decide +kernel
theorem dX0_keep_53 : decode cX0_keep 53 = .ok (.iadd, 1) := by decide +kernel
theorem dX0_keep_54 : decode cX0_keep 54 = .ok (.putfield 23, 3) := by decide +kernel
theorem dX0_keep_57 : decode cX0_keep 57 = .ok (.goto 16, 3) := by decide +kernel
theorem dX0_keep_60 : decode cX0_keep 60 = .ok (.aload_n 0, 1) := by decide +kernel
theorem dX0_keep_61 : decode cX0_keep 61 = .ok (.aload_n 0, 1) := by decide +kernel
theorem dX0_keep_62 : decode cX0_keep 62 = .ok (.getfield 19, 3) := by decide +kernel
theorem dX0_keep_65 : decode cX0_keep 65 = .ok (.iconst 1, 1) := by decide +kernel
theorem dX0_keep_66 : decode cX0_keep 66 = .ok (.iadd, 1) := by decide +kernel
theorem dX0_keep_67 : decode cX0_keep 67 = .ok (.bipush 10, 2) := by decide +kernel
theorem dX0_keep_69 : decode cX0_keep 69 = .ok (.irem, 1) := by decide +kernel
theorem dX0_keep_70 : decode cX0_keep 70 = .ok (.putfield 19, 3) := by decide +kernel
theorem dX0_keep_73 : decode cX0_keep 73 = .ok (.return_, 1) := by decide +kernel
theorem dX0_takeBack_0 : decode cX0_takeBack 0 = .ok (.aload_n 0, 1) := by decide +kernel
theorem dX0_takeBack_1 : decode cX0_takeBack 1 = .ok (.getfield 23, 3) := by decide +kernel
theorem dX0_takeBack_4 : decode cX0_takeBack 4 = .ok (.ifCond .le 48, 3) := by decide +kernel
theorem dX0_takeBack_7 : decode cX0_takeBack 7 = .ok (.aload_n 0, 1) := by decide +kernel
theorem dX0_takeBack_8 : decode cX0_takeBack 8 = .ok (.dup, 1) := by decide +kernel
theorem dX0_takeBack_9 : decode cX0_takeBack 9 = .ok (.getfield 23, 3) := by decide +kernel
theorem dX0_takeBack_12 : decode cX0_takeBack 12 = .ok (.iconst 1, 1) := by decide +kernel
theorem dX0_takeBack_13 : decode cX0_takeBack 13 = .ok (.isub, 1) := by decide +kernel
theorem dX0_takeBack_14 : decode cX0_takeBack 14 = .ok (.putfield 23, 3) := by decide +kernel
theorem dX0_takeBack_17 : decode cX0_takeBack 17 = .ok (.aload_n 0, 1) := by decide +kernel
theorem dX0_takeBack_18 : decode cX0_takeBack 18 = .ok (.getfield 19, 3) := by decide +kernel
theorem dX0_takeBack_21 : decode cX0_takeBack 21 = .ok (.aload_n 0, 1) := by decide +kernel
theorem dX0_takeBack_22 : decode cX0_takeBack 22 = .ok (.getfield 23, 3) := by decide +kernel
theorem dX0_takeBack_25 : decode cX0_takeBack 25 = .ok (.iadd, 1) := by decide +kernel
theorem dX0_takeBack_26 : decode cX0_takeBack 26 = .ok (.bipush 10, 2) := by decide +kernel
theorem dX0_takeBack_28 : decode cX0_takeBack 28 = .ok (.irem, 1) := by decide +kernel
theorem dX0_takeBack_29 : decode cX0_takeBack 29 = .ok (.istore_n 2, 1) := by decide +kernel
theorem dX0_takeBack_30 : decode cX0_takeBack 30 = .ok (.aload_n 1, 1) := by decide +kernel
theorem dX0_takeBack_31 : decode cX0_takeBack 31 = .ok (.aload_n 0, 1) := by decide +kernel
theorem dX0_takeBack_32 : decode cX0_takeBack 32 = .ok (.getfield 9, 3) := by decide +kernel
theorem dX0_takeBack_35 : decode cX0_takeBack 35 = .ok (.iload_n 2, 1) := by decide +kernel
theorem dX0_takeBack_36 : decode cX0_takeBack 36 = .ok (.iaload, 1) := by decide +kernel
theorem dX0_takeBack_37 : decode cX0_takeBack 37 = .ok (.aload_n 0, 1) := by decide +kernel
theorem dX0_takeBack_38 : decode cX0_takeBack 38 = .ok (.getfield 13, 3) := by decide +kernel
theorem dX0_takeBack_41 : decode cX0_takeBack 41 = .ok (.iload_n 2, 1) := by decide +kernel
theorem dX0_takeBack_42 : decode cX0_takeBack 42 = .ok (.iaload, 1) := by decide +kernel
theorem dX0_takeBack_43 : decode cX0_takeBack 43 = .ok (.aload_n 0, 1) := by decide +kernel
theorem dX0_takeBack_44 : decode cX0_takeBack 44 = .ok (.getfield 16, 3) := by decide +kernel
theorem dX0_takeBack_47 : decode cX0_takeBack 47 = .ok (.iload_n 2, 1) := by decide +kernel
theorem dX0_takeBack_48 : decode cX0_takeBack 48 = .ok (.iaload, 1) := by decide +kernel
theorem dX0_takeBack_49 : decode cX0_takeBack 49 = .ok (.invokevirtual 26, 3) := by decide +kernel
theorem dX0_takeBack_52 : decode cX0_takeBack 52 = .ok (.return_, 1) := by decide +kernel
theorem dX1_init_0 : decode cX1_init 0 = .ok (.aload_n 0, 1) := by decide +kernel
theorem dX1_init_1 : decode cX1_init 1 = .ok (.invokespecial 3, 3) := by decide +kernel
theorem dX1_init_4 : decode cX1_init 4 = .ok (.aload_n 0, 1) := by decide +kernel
theorem dX1_init_5 : decode cX1_init 5 = .ok (.bipush 40, 2) := by decide +kernel
theorem dX1_init_7 : decode cX1_init 7 = .ok (.newarray .int, 2) := by decide +kernel
theorem dX1_init_9 : decode cX1_init 9 = .ok (.putfield 11, 3) := by decide +kernel
theorem dX1_init_12 : decode cX1_init 12 = .ok (.aload_n 0, 1) := by decide +kernel
theorem dX1_init_13 : decode cX1_init 13 = .ok (.bipush 40, 2) := by decide +kernel
theorem dX1_init_15 : decode cX1_init 15 = .ok (.newarray .int, 2) := by decide +kernel
theorem dX1_init_17 : decode cX1_init 17 = .ok (.putfield 17, 3) := by decide +kernel
theorem dX1_init_20 : decode cX1_init 20 = .ok (.aload_n 0, 1) := by decide +kernel
theorem dX1_init_21 : decode cX1_init 21 = .ok (.bipush 40, 2) := by decide +kernel
theorem dX1_init_23 : decode cX1_init 23 = .ok (.newarray .int, 2) := by decide +kernel
theorem dX1_init_25 : decode cX1_init 25 = .ok (.putfield 20, 3) := by decide +kernel
theorem dX1_init_28 : decode cX1_init 28 = .ok (.aload_n 0, 1) := by decide +kernel
theorem dX1_init_29 : decode cX1_init 29 = .ok (.bipush 40, 2) := by decide +kernel
theorem dX1_init_31 : decode cX1_init 31 = .ok (.newarray .int, 2) := by decide +kernel
theorem dX1_init_33 : decode cX1_init 33 = .ok (.putfield 23, 3) := by decide +kernel
theorem dX1_init_36 : decode cX1_init 36 = .ok (.aload_n 0, 1) := by decide +kernel
theorem dX1_init_37 : decode cX1_init 37 = .ok (.bipush 81, 2) := by decide +kernel
theorem dX1_init_39 : decode cX1_init 39 = .ok (.newarray .int, 2) := by decide +kernel
theorem dX1_init_41 : decode cX1_init 41 = .ok (.putfield 26, 3) := by decide +kernel
theorem dX1_init_44 : decode cX1_init 44 = .ok (.aload_n 0, 1) := by decide +kernel
theorem dX1_init_45 : decode cX1_init 45 = .ok (.iconst 0, 1) := by decide +kernel
theorem dX1_init_46 : decode cX1_init 46 = .ok (.putfield 29, 3) := by decide +kernel
theorem dX1_init_49 : decode cX1_init 49 = .ok (.aload_n 0, 1) := by decide +kernel
theorem dX1_init_50 : decode cX1_init 50 = .ok (.iconst 0, 1) := by decide +kernel
theorem dX1_init_51 : decode cX1_init 51 = .ok (.putfield 33, 3) := by decide +kernel
theorem dX1_init_54 : decode cX1_init 54 = .ok (.aload_n 0, 1) := by decide +kernel
theorem dX1_init_55 : decode cX1_init 55 = .ok (.iconst 0, 1) := by decide +kernel
theorem dX1_init_56 : decode cX1_init 56 = .ok (.putfield 36, 3) := by decide +kernel
theorem dX1_init_59 : decode cX1_init 59 = .ok (.aload_n 0, 1) := by decide +kernel
theorem dX1_init_60 : decode cX1_init 60 = .ok (.iconst 0, 1) := by decide +kernel
theorem dX1_init_61 : decode cX1_init 61 = .ok (.putfield 39, 3) := by decide +kernel
theorem dX1_init_64 : decode cX1_init 64 = .ok (.aload_n 0, 1) := by decide +kernel
theorem dX1_init_65 : decode cX1_init 65 = .ok (.iconst 0, 1) := by decide +kernel
theorem dX1_init_66 : decode cX1_init 66 = .ok (.putfield 42, 3) := by decide +kernel
theorem dX1_init_69 : decode cX1_init 69 = .ok (.return_, 1) := by decide +kernel
theorem dX1_empty_0 : decode cX1_empty 0 = .ok (.aload_n 0, 1) := by decide +kernel
theorem dX1_empty_1 : decode cX1_empty 1 = .ok (.iconst 0, 1) := by decide +kernel
theorem dX1_empty_2 : decode cX1_empty 2 = .ok (.putfield 29, 3) := by decide +kernel
theorem dX1_empty_5 : decode cX1_empty 5 = .ok (.return_, 1) := by decide +kernel
theorem dX1_add_0 : decode cX1_add 0 = .ok (.aload_n 0, 1) := by decide +kernel
theorem dX1_add_1 : decode cX1_add 1 = .ok (.getfield 29, 3) := by decide +kernel
theorem dX1_add_4 : decode cX1_add 4 = .ok (.bipush 40, 2) := by decide +kernel
theorem dX1_add_6 : decode cX1_add 6 = .ok (.if_icmp .ge 43, 3) := by decide +kernel
theorem dX1_add_9 : decode cX1_add 9 = .ok (.aload_n 0, 1) := by decide +kernel
theorem dX1_add_10 : decode cX1_add 10 = .ok (.getfield 11, 3) := by decide +kernel
theorem dX1_add_13 : decode cX1_add 13 = .ok (.aload_n 0, 1) := by decide +kernel
theorem dX1_add_14 : decode cX1_add 14 = .ok (.getfield 29, 3) := by decide +kernel
theorem dX1_add_17 : decode cX1_add 17 = .ok (.iload_n 1, 1) := by decide +kernel
theorem dX1_add_18 : decode cX1_add 18 = .ok (.iastore, 1) := by decide +kernel
theorem dX1_add_19 : decode cX1_add 19 = .ok (.aload_n 0, 1) := by decide +kernel
theorem dX1_add_20 : decode cX1_add 20 = .ok (.getfield 17, 3) := by decide +kernel
theorem dX1_add_23 : decode cX1_add 23 = .ok (.aload_n 0, 1) := by decide +kernel
theorem dX1_add_24 : decode cX1_add 24 = .ok (.getfield 29, 3) := by decide +kernel
theorem dX1_add_27 : decode cX1_add 27 = .ok (.iload_n 2, 1) := by decide +kernel
theorem dX1_add_28 : decode cX1_add 28 = .ok (.iastore, 1) := by decide +kernel
theorem dX1_add_29 : decode cX1_add 29 = .ok (.aload_n 0, 1) := by decide +kernel
theorem dX1_add_30 : decode cX1_add 30 = .ok (.getfield 20, 3) := by decide +kernel
theorem dX1_add_33 : decode cX1_add 33 = .ok (.aload_n 0, 1) := by decide +kernel
theorem dX1_add_34 : decode cX1_add 34 = .ok (.getfield 29, 3) := by decide +kernel
theorem dX1_add_37 : decode cX1_add 37 = .ok (.iload_n 3, 1) := by decide +kernel
theorem dX1_add_38 : decode cX1_add 38 = .ok (.iastore, 1) := by decide +kernel
theorem dX1_add_39 : decode cX1_add 39 = .ok (.aload_n 0, 1) := by decide +kernel
theorem dX1_add_40 : decode cX1_add 40 = .ok (.dup, 1) := by decide +kernel
theorem dX1_add_41 : decode cX1_add 41 = .ok (.getfield 29, 3) := by decide +kernel
theorem dX1_add_44 : decode cX1_add 44 = .ok (.iconst 1, 1) := by decide +kernel
theorem dX1_add_45 : decode cX1_add 45 = .ok (.iadd, 1) := by decide +kernel
theorem dX1_add_46 : decode cX1_add 46 = .ok (.putfield 29, 3) := by decide +kernel
theorem dX1_add_49 : decode cX1_add 49 = .ok (.return_, 1) := by decide +kernel
theorem dX1_isEmpty_0 : decode cX1_isEmpty 0 = .ok (.aload_n 0, 1) := by decide +kernel
theorem dX1_isEmpty_1 : decode cX1_isEmpty 1 = .ok (.getfield 29, 3) := by decide +kernel
theorem dX1_isEmpty_4 : decode cX1_isEmpty 4 = .ok (.ifCond .ne 7, 3) := by decide +kernel
theorem dX1_isEmpty_7 : decode cX1_isEmpty 7 = .ok (.iconst 1, 1) := by decide +kernel
theorem dX1_isEmpty_8 : decode cX1_isEmpty 8 = .ok (.goto 4, 3) := by decide +kernel
theorem dX1_isEmpty_11 : decode cX1_isEmpty 11 = .ok (.iconst 0, 1) := by decide +kernel
theorem dX1_isEmpty_12 : decode cX1_isEmpty 12 = .ok (.ireturn, 1) := by decide +kernel
theorem dX1_length_0 : decode cX1_length 0 = .ok (.aload_n 0, 1) := by decide +kernel
theorem dX1_length_1 : decode cX1_length 1 = .ok (.getfield 29, 3) := by decide +kernel
theorem dX1_length_4 : decode cX1_length 4 = .ok (.ireturn, 1) := by decide +kernel
theorem dX1_extreme_0 : decode cX1_extreme 0 = .ok (.iload_n 1, 1) := by decide +kernel
theorem dX1_extreme_1 : decode cX1_extreme 1 = .ok (.iconst 2, 1) := by decide +kernel
theorem dX1_extreme_2 : decode cX1_extreme 2 = .ok (.if_icmp .ge 10, 3) := by decide +kernel
theorem dX1_extreme_5 : decode cX1_extreme 5 = .ok (.aload_n 0, 1) := by decide +kernel
theorem dX1_extreme_6 : decode cX1_extreme 6 = .ok (.getfield 11, 3) := by decide +kernel
theorem dX1_extreme_9 : decode cX1_extreme 9 = .ok (.goto 7, 3) := by decide +kernel
theorem dX1_extreme_12 : decode cX1_extreme 12 = .ok (.aload_n 0, 1) := by decide +kernel
theorem dX1_extreme_13 : decode cX1_extreme 13 = .ok (.getfield 17, 3) := by decide +kernel
theorem dX1_extreme_16 : decode cX1_extreme 16 = .ok (.astore_n 2, 1) := by decide +kernel
theorem dX1_extreme_17 : decode cX1_extreme 17 = .ok (.aload_n 2, 1) := by decide +kernel
theorem dX1_extreme_18 : decode cX1_extreme 18 = .ok (.iconst 0, 1) := by decide +kernel
theorem dX1_extreme_19 : decode cX1_extreme 19 = .ok (.iaload, 1) := by decide +kernel
theorem dX1_extreme_20 : decode cX1_extreme 20 = .ok (.istore_n 3, 1) := by decide +kernel
theorem dX1_extreme_21 : decode cX1_extreme 21 = .ok (.iconst 1, 1) := by decide +kernel
theorem dX1_extreme_22 : decode cX1_extreme 22 = .ok (.istore 4, 2) := by decide +kernel
theorem dX1_extreme_24 : decode cX1_extreme 24 = .ok (.iload 4, 2) := by decide +kernel
theorem dX1_extreme_26 : decode cX1_extreme 26 = .ok (.aload_n 0, 1) := by decide +kernel
theorem dX1_extreme_27 : decode cX1_extreme 27 = .ok (.getfield 29, 3) := by decide +kernel
theorem dX1_extreme_30 : decode cX1_extreme 30 = .ok (.if_icmp .ge 35, 3) := by decide +kernel
theorem dX1_extreme_33 : decode cX1_extreme 33 = .ok (.iload_n 1, 1) := by decide +kernel
theorem dX1_extreme_34 : decode cX1_extreme 34 = .ok (.iconst 1, 1) := by decide +kernel
theorem dX1_extreme_35 : decode cX1_extreme 35 = .ok (.iand, 1) := by decide +kernel
theorem dX1_extreme_36 : decode cX1_extreme 36 = .ok (.ifCond .ne 14, 3) := by decide +kernel
theorem dX1_extreme_39 : decode cX1_extreme 39 = .ok (.iload_n 3, 1) := by decide +kernel
theorem dX1_extreme_40 : decode cX1_extreme 40 = .ok (.aload_n 2, 1) := by decide +kernel
theorem dX1_extreme_41 : decode cX1_extreme 41 = .ok (.iload 4, 2) := by decide +kernel
theorem dX1_extreme_43 : decode cX1_extreme 43 = .ok (.iaload, 1) := by decide +kernel
theorem dX1_extreme_44 : decode cX1_extreme 44 = .ok (.invokestatic 45, 3) := by decide +kernel
theorem dX1_extreme_47 : decode cX1_extreme 47 = .ok (.goto 11, 3) := by decide +kernel
theorem dX1_extreme_50 : decode cX1_extreme 50 = .ok (.iload_n 3, 1) := by decide +kernel
theorem dX1_extreme_51 : decode cX1_extreme 51 = .ok (.aload_n 2, 1) := by decide +kernel
theorem dX1_extreme_52 : decode cX1_extreme 52 = .ok (.iload 4, 2) := by decide +kernel
theorem dX1_extreme_54 : decode cX1_extreme 54 = .ok (.iaload, 1) := by decide +kernel
theorem dX1_extreme_55 : decode cX1_extreme 55 = .ok (.invokestatic 51, 3) := by decide +kernel
theorem dX1_extreme_58 : decode cX1_extreme 58 = .ok (.istore_n 3, 1) := by decide +kernel
theorem dX1_extreme_59 : decode cX1_extreme 59 = .ok (.iinc 4 1, 3) := by decide +kernel
theorem dX1_extreme_62 : decode cX1_extreme 62 = .ok (.goto (-38), 3) := by decide +kernel
theorem dX1_extreme_65 : decode cX1_extreme 65 = .ok (.iload_n 3, 1) := by decide +kernel
theorem dX1_extreme_66 : decode cX1_extreme 66 = .ok (.ireturn, 1) := by decide +kernel
theorem dX1_next_0 : decode cX1_next 0 = .ok (.iload_n 1, 1) := by decide +kernel
theorem dX1_next_1 : decode cX1_next 1 = .ok (.iconst 1, 1) := by decide +kernel
theorem dX1_next_2 : decode cX1_next 2 = .ok (.iadd, 1) := by decide +kernel
theorem dX1_next_3 : decode cX1_next 3 = .ok (.aload_n 0, 1) := by decide +kernel
theorem dX1_next_4 : decode cX1_next 4 = .ok (.getfield 29, 3) := by decide +kernel
theorem dX1_next_7 : decode cX1_next 7 = .ok (.if_icmp .ge 9, 3) := by decide +kernel
theorem dX1_next_10 : decode cX1_next 10 = .ok (.iload_n 1, 1) := by decide +kernel
theorem dX1_next_11 : decode cX1_next 11 = .ok (.iconst 1, 1) := by decide +kernel
theorem dX1_next_12 : decode cX1_next 12 = .ok (.iadd, 1) := by decide +kernel
theorem dX1_next_13 : decode cX1_next 13 = .ok (.goto 4, 3) := by decide +kernel
theorem dX1_next_16 : decode cX1_next 16 = .ok (.iconst 0, 1) := by decide +kernel
theorem dX1_next_17 : decode cX1_next 17 = .ok (.ireturn, 1) := by decide +kernel
theorem dX1_crossed_0 : decode cX1_crossed 0 = .ok (.aload_n 0, 1) := by decide +kernel
theorem dX1_crossed_1 : decode cX1_crossed 1 = .ok (.getfield 11, 3) := by decide +kernel
theorem dX1_crossed_4 : decode cX1_crossed 4 = .ok (.iload_n 1, 1) := by decide +kernel
theorem dX1_crossed_5 : decode cX1_crossed 5 = .ok (.iaload, 1) := by decide +kernel
theorem dX1_crossed_6 : decode cX1_crossed 6 = .ok (.i2l, 1) := by decide +kernel
theorem dX1_crossed_7 : decode cX1_crossed 7 = .ok (.aload_n 0, 1) := by decide +kernel
theorem dX1_crossed_8 : decode cX1_crossed 8 = .ok (.getfield 17, 3) := by decide +kernel
theorem dX1_crossed_11 : decode cX1_crossed 11 = .ok (.iload_n 2, 1) := by decide +kernel
theorem dX1_crossed_12 : decode cX1_crossed 12 = .ok (.iaload, 1) := by decide +kernel
theorem dX1_crossed_13 : decode cX1_crossed 13 = .ok (.i2l, 1) := by decide +kernel
theorem dX1_crossed_14 : decode cX1_crossed 14 = .ok (.lmul, 1) := by decide +kernel
theorem dX1_crossed_15 : decode cX1_crossed 15 = .ok (.aload_n 0, 1) := by decide +kernel
theorem dX1_crossed_16 : decode cX1_crossed 16 = .ok (.getfield 11, 3) := by decide +kernel
theorem dX1_crossed_19 : decode cX1_crossed 19 = .ok (.iload_n 2, 1) := by decide +kernel
theorem dX1_crossed_20 : decode cX1_crossed 20 = .ok (.iaload, 1) := by decide +kernel
theorem dX1_crossed_21 : decode cX1_crossed 21 = .ok (.i2l, 1) := by decide +kernel
theorem dX1_crossed_22 : decode cX1_crossed 22 = .ok (.aload_n 0, 1) := by decide +kernel
theorem dX1_crossed_23 : decode cX1_crossed 23 = .ok (.getfield 17, 3) := by decide +kernel
theorem dX1_crossed_26 : decode cX1_crossed 26 = .ok (.iload_n 1, 1) := by decide +kernel
theorem dX1_crossed_27 : decode cX1_crossed 27 = .ok (.iaload, 1) := by decide +kernel
theorem dX1_crossed_28 : decode cX1_crossed 28 = .ok (.i2l, 1) := by decide +kernel
theorem dX1_crossed_29 : decode cX1_crossed 29 = .ok (.lmul, 1) := by decide +kernel
theorem dX1_crossed_30 : decode cX1_crossed 30 = .ok (.lsub, 1) := by decide +kernel
theorem dX1_crossed_31 : decode cX1_crossed 31 = .ok (.lreturn, 1) := by decide +kernel
theorem dX1_edgeSum_0 : decode cX1_edgeSum 0 = .ok (.lconst 0, 1) := by decide +kernel
theorem dX1_edgeSum_1 : decode cX1_edgeSum 1 = .ok (.lstore_n 1, 1) := by decide +kernel
theorem dX1_edgeSum_2 : decode cX1_edgeSum 2 = .ok (.iconst 0, 1) := by decide +kernel
theorem dX1_edgeSum_3 : decode cX1_edgeSum 3 = .ok (.istore_n 3, 1) := by decide +kernel
theorem dX1_edgeSum_4 : decode cX1_edgeSum 4 = .ok (.iload_n 3, 1) := by decide +kernel
theorem dX1_edgeSum_5 : decode cX1_edgeSum 5 = .ok (.aload_n 0, 1) := by decide +kernel
theorem dX1_edgeSum_6 : decode cX1_edgeSum 6 = .ok (.getfield 29, 3) := by decide +kernel
theorem dX1_edgeSum_9 : decode cX1_edgeSum 9 = .ok (.if_icmp .ge 22, 3) := by decide +kernel
theorem dX1_edgeSum_12 : decode cX1_edgeSum 12 = .ok (.lload_n 1, 1) := by decide +kernel
theorem dX1_edgeSum_13 : decode cX1_edgeSum 13 = .ok (.aload_n 0, 1) := by decide +kernel
theorem dX1_edgeSum_14 : decode cX1_edgeSum 14 = .ok (.iload_n 3, 1) := by decide +kernel
theorem dX1_edgeSum_15 : decode cX1_edgeSum 15 = .ok (.aload_n 0, 1) := by decide +kernel
theorem dX1_edgeSum_16 : decode cX1_edgeSum 16 = .ok (.iload_n 3, 1) := by decide +kernel
theorem dX1_edgeSum_17 : decode cX1_edgeSum 17 = .ok (.invokevirtual 54, 3) := by decide +kernel
theorem dX1_edgeSum_20 : decode cX1_edgeSum 20 = .ok (.invokevirtual 58, 3) := by decide +kernel
theorem dX1_edgeSum_23 : decode cX1_edgeSum 23 = .ok (.ladd, 1) := by decide +kernel
theorem dX1_edgeSum_24 : decode cX1_edgeSum 24 = .ok (.lstore_n 1, 1) := by decide +kernel
theorem dX1_edgeSum_25 : decode cX1_edgeSum 25 = .ok (.iinc 3 1, 3) := by decide +kernel
theorem dX1_edgeSum_28 : decode cX1_edgeSum 28 = .ok (.goto (-24), 3) := by decide +kernel
theorem dX1_edgeSum_31 : decode cX1_edgeSum 31 = .ok (.lload_n 1, 1) := by decide +kernel
theorem dX1_edgeSum_32 : decode cX1_edgeSum 32 = .ok (.lreturn, 1) := by decide +kernel
theorem dX1_bend_0 : decode cX1_bend 0 = .ok (.aload_n 0, 1) := by decide +kernel
theorem dX1_bend_1 : decode cX1_bend 1 = .ok (.getfield 11, 3) := by decide +kernel
theorem dX1_bend_4 : decode cX1_bend 4 = .ok (.iload_n 2, 1) := by decide +kernel
theorem dX1_bend_5 : decode cX1_bend 5 = .ok (.iaload, 1) := by decide +kernel
theorem dX1_bend_6 : decode cX1_bend 6 = .ok (.aload_n 0, 1) := by decide +kernel
theorem dX1_bend_7 : decode cX1_bend 7 = .ok (.getfield 11, 3) := by decide +kernel
theorem dX1_bend_10 : decode cX1_bend 10 = .ok (.iload_n 1, 1) := by decide +kernel
theorem dX1_bend_11 : decode cX1_bend 11 = .ok (.iaload, 1) := by decide +kernel
theorem dX1_bend_12 : decode cX1_bend 12 = .ok (.isub, 1) := by decide +kernel
theorem dX1_bend_13 : decode cX1_bend 13 = .ok (.i2l, 1) := by decide +kernel
theorem dX1_bend_14 : decode cX1_bend 14 = .ok (.aload_n 0, 1) := by decide +kernel
theorem dX1_bend_15 : decode cX1_bend 15 = .ok (.getfield 17, 3) := by decide +kernel
theorem dX1_bend_18 : decode cX1_bend 18 = .ok (.iload_n 3, 1) := by decide +kernel
theorem dX1_bend_19 : decode cX1_bend 19 = .ok (.iaload, 1) := by decide +kernel
theorem dX1_bend_20 : decode cX1_bend 20 = .ok (.aload_n 0, 1) := by decide +kernel
theorem dX1_bend_21 : decode cX1_bend 21 = .ok (.getfield 17, 3) := by decide +kernel
theorem dX1_bend_24 : decode cX1_bend 24 = .ok (.iload_n 1, 1) := by decide +kernel
theorem dX1_bend_25 : decode cX1_bend 25 = .ok (.iaload, 1) := by decide +kernel
theorem dX1_bend_26 : decode cX1_bend 26 = .ok (.isub, 1) := by decide +kernel
theorem dX1_bend_27 : decode cX1_bend 27 = .ok (.i2l, 1) := by decide +kernel
theorem dX1_bend_28 : decode cX1_bend 28 = .ok (.lmul, 1) := by decide +kernel
theorem dX1_bend_29 : decode cX1_bend 29 = .ok (.aload_n 0, 1) := by decide +kernel
theorem dX1_bend_30 : decode cX1_bend 30 = .ok (.getfield 17, 3) := by decide +kernel
theorem dX1_bend_33 : decode cX1_bend 33 = .ok (.iload_n 2, 1) := by decide +kernel
theorem dX1_bend_34 : decode cX1_bend 34 = .ok (.iaload, 1) := by decide +kernel
theorem dX1_bend_35 : decode cX1_bend 35 = .ok (.aload_n 0, 1) := by decide +kernel
theorem dX1_bend_36 : decode cX1_bend 36 = .ok (.getfield 17, 3) := by decide +kernel
theorem dX1_bend_39 : decode cX1_bend 39 = .ok (.iload_n 1, 1) := by decide +kernel
theorem dX1_bend_40 : decode cX1_bend 40 = .ok (.iaload, 1) := by decide +kernel
theorem dX1_bend_41 : decode cX1_bend 41 = .ok (.isub, 1) := by decide +kernel
theorem dX1_bend_42 : decode cX1_bend 42 = .ok (.i2l, 1) := by decide +kernel
theorem dX1_bend_43 : decode cX1_bend 43 = .ok (.aload_n 0, 1) := by decide +kernel
theorem dX1_bend_44 : decode cX1_bend 44 = .ok (.getfield 11, 3) := by decide +kernel
theorem dX1_bend_47 : decode cX1_bend 47 = .ok (.iload_n 3, 1) := by decide +kernel
theorem dX1_bend_48 : decode cX1_bend 48 = .ok (.iaload, 1) := by decide +kernel
theorem dX1_bend_49 : decode cX1_bend 49 = .ok (.aload_n 0, 1) := by decide +kernel
theorem dX1_bend_50 : decode cX1_bend 50 = .ok (.getfield 11, 3) := by decide +kernel
theorem dX1_bend_53 : decode cX1_bend 53 = .ok (.iload_n 1, 1) := by decide +kernel
theorem dX1_bend_54 : decode cX1_bend 54 = .ok (.iaload, 1) := by decide +kernel
theorem dX1_bend_55 : decode cX1_bend 55 = .ok (.isub, 1) := by decide +kernel
theorem dX1_bend_56 : decode cX1_bend 56 = .ok (.i2l, 1) := by decide +kernel
theorem dX1_bend_57 : decode cX1_bend 57 = .ok (.lmul, 1) := by decide +kernel
theorem dX1_bend_58 : decode cX1_bend 58 = .ok (.lsub, 1) := by decide +kernel
theorem dX1_bend_59 : decode cX1_bend 59 = .ok (.lreturn, 1) := by decide +kernel
theorem dX1_parts_0 : decode cX1_parts 0 = .ok (.aload_n 0, 1) := by decide +kernel
theorem dX1_parts_1 : decode cX1_parts 1 = .ok (.iload_n 1, 1) := by decide +kernel
theorem dX1_parts_2 : decode cX1_parts 2 = .ok (.iload_n 2, 1) := by decide +kernel
theorem dX1_parts_3 : decode cX1_parts 3 = .ok (.iload_n 3, 1) := by decide +kernel
theorem dX1_parts_4 : decode cX1_parts 4 = .ok (.invokevirtual 62, 3) := by decide +kernel
theorem dX1_parts_7 : decode cX1_parts 7 = .ok (.lstore 5, 2) := by decide +kernel
theorem dX1_parts_9 : decode cX1_parts 9 = .ok (.aload_n 0, 1) := by decide +kernel
theorem dX1_parts_10 : decode cX1_parts 10 = .ok (.iload_n 1, 1) := by decide +kernel
theorem dX1_parts_11 : decode cX1_parts 11 = .ok (.iload_n 2, 1) := by decide +kernel
theorem dX1_parts_12 : decode cX1_parts 12 = .ok (.iload 4, 2) := by decide +kernel
theorem dX1_parts_14 : decode cX1_parts 14 = .ok (.invokevirtual 62, 3) := by decide +kernel
theorem dX1_parts_17 : decode cX1_parts 17 = .ok (.lstore 7, 2) := by decide +kernel
theorem dX1_parts_19 : decode cX1_parts 19 = .ok (.lload 5, 2) := by decide +kernel
theorem dX1_parts_21 : decode cX1_parts 21 = .ok (.lconst 0, 1) := by decide +kernel
theorem dX1_parts_22 : decode cX1_parts 22 = .ok (.lcmp, 1) := by decide +kernel
theorem dX1_parts_23 : decode cX1_parts 23 = .ok (.ifCond .le 10, 3) := by decide +kernel
theorem dX1_parts_26 : decode cX1_parts 26 = .ok (.lload 7, 2) := by decide +kernel
theorem dX1_parts_28 : decode cX1_parts 28 = .ok (.lconst 0, 1) := by decide +kernel
theorem dX1_parts_29 : decode cX1_parts 29 = .ok (.lcmp, 1) := by decide +kernel
theorem dX1_parts_30 : decode cX1_parts 30 = .ok (.ifCond .lt 17, 3) := by decide +kernel
theorem dX1_parts_33 : decode cX1_parts 33 = .ok (.lload 5, 2) := by decide +kernel
theorem dX1_parts_35 : decode cX1_parts 35 = .ok (.lconst 0, 1) := by decide +kernel
theorem dX1_parts_36 : decode cX1_parts 36 = .ok (.lcmp, 1) := by decide +kernel
theorem dX1_parts_37 : decode cX1_parts 37 = .ok (.ifCond .ge 14, 3) := by decide +kernel
theorem dX1_parts_40 : decode cX1_parts 40 = .ok (.lload 7, 2) := by decide +kernel
theorem dX1_parts_42 : decode cX1_parts 42 = .ok (.lconst 0, 1) := by decide +kernel
theorem dX1_parts_43 : decode cX1_parts 43 = .ok (.lcmp, 1) := by decide +kernel
theorem dX1_parts_44 : decode cX1_parts 44 = .ok (.ifCond .le 7, 3) := by decide +kernel
theorem dX1_parts_47 : decode cX1_parts 47 = .ok (.iconst 1, 1) := by decide +kernel
theorem dX1_parts_48 : decode cX1_parts 48 = .ok (.goto 4, 3) := by decide +kernel
theorem dX1_parts_51 : decode cX1_parts 51 = .ok (.iconst 0, 1) := by decide +kernel
theorem dX1_parts_52 : decode cX1_parts 52 = .ok (.ireturn, 1) := by decide +kernel
theorem dX1_cutCount_0 : decode cX1_cutCount 0 = .ok (.iconst 0, 1) := by decide +kernel
theorem dX1_cutCount_1 : decode cX1_cutCount 1 = .ok (.istore_n 1, 1) := by decide +kernel
theorem dX1_cutCount_2 : decode cX1_cutCount 2 = .ok (.iconst 0, 1) := by decide +kernel
theorem dX1_cutCount_3 : decode cX1_cutCount 3 = .ok (.istore_n 2, 1) := by decide +kernel
theorem dX1_cutCount_4 : decode cX1_cutCount 4 = .ok (.iload_n 2, 1) := by decide +kernel
theorem dX1_cutCount_5 : decode cX1_cutCount 5 = .ok (.aload_n 0, 1) := by decide +kernel
theorem dX1_cutCount_6 : decode cX1_cutCount 6 = .ok (.getfield 29, 3) := by decide +kernel
theorem dX1_cutCount_9 : decode cX1_cutCount 9 = .ok (.if_icmp .ge 77, 3) := by decide +kernel
theorem dX1_cutCount_12 : decode cX1_cutCount 12 = .ok (.iload_n 2, 1) := by decide +kernel
theorem dX1_cutCount_13 : decode cX1_cutCount 13 = .ok (.iconst 2, 1) := by decide +kernel
theorem dX1_cutCount_14 : decode cX1_cutCount 14 = .ok (.iadd, 1) := by decide +kernel
theorem dX1_cutCount_15 : decode cX1_cutCount 15 = .ok (.istore_n 3, 1) := by decide +kernel
theorem dX1_cutCount_16 : decode cX1_cutCount 16 = .ok (.iload_n 3, 1) := by decide +kernel
theorem dX1_cutCount_17 : decode cX1_cutCount 17 = .ok (.aload_n 0, 1) := by decide +kernel
theorem dX1_cutCount_18 : decode cX1_cutCount 18 = .ok (.getfield 29, 3) := by decide +kernel
theorem dX1_cutCount_21 : decode cX1_cutCount 21 = .ok (.if_icmp .ge 59, 3) := by decide +kernel
theorem dX1_cutCount_24 : decode cX1_cutCount 24 = .ok (.aload_n 0, 1) := by decide +kernel
theorem dX1_cutCount_25 : decode cX1_cutCount 25 = .ok (.iload_n 3, 1) := by decide +kernel
theorem dX1_cutCount_26 : decode cX1_cutCount 26 = .ok (.invokevirtual 54, 3) := by decide +kernel
theorem dX1_cutCount_29 : decode cX1_cutCount 29 = .ok (.iload_n 2, 1) := by decide +kernel
theorem dX1_cutCount_30 : decode cX1_cutCount 30 = .ok (.if_icmp .eq 44, 3) := by decide +kernel
theorem dX1_cutCount_33 : decode cX1_cutCount 33 = .ok (.aload_n 0, 1) := by decide +kernel
theorem dX1_cutCount_34 : decode cX1_cutCount 34 = .ok (.iload_n 2, 1) := by decide +kernel
theorem dX1_cutCount_35 : decode cX1_cutCount 35 = .ok (.aload_n 0, 1) := by decide +kernel
theorem dX1_cutCount_36 : decode cX1_cutCount 36 = .ok (.iload_n 2, 1) := by decide +kernel
theorem dX1_cutCount_37 : decode cX1_cutCount 37 = .ok (.invokevirtual 54, 3) := by decide +kernel
theorem dX1_cutCount_40 : decode cX1_cutCount 40 = .ok (.iload_n 3, 1) := by decide +kernel
theorem dX1_cutCount_41 : decode cX1_cutCount 41 = .ok (.aload_n 0, 1) := by decide +kernel
theorem dX1_cutCount_42 : decode cX1_cutCount 42 = .ok (.iload_n 3, 1) := by decide +kernel
theorem dX1_cutCount_43 : decode cX1_cutCount 43 = .ok (.invokevirtual 54, 3) := by decide +kernel
theorem dX1_cutCount_46 : decode cX1_cutCount 46 = .ok (.invokevirtual 66, 3) := by decide +kernel
theorem dX1_cutCount_49 : decode cX1_cutCount 49 = .ok (.ifCond .eq 25, 3) := by decide +kernel
theorem dX1_cutCount_52 : decode cX1_cutCount 52 = .ok (.aload_n 0, 1) := by decide +kernel
theorem dX1_cutCount_53 : decode cX1_cutCount 53 = .ok (.iload_n 3, 1) := by decide +kernel
theorem dX1_cutCount_54 : decode cX1_cutCount 54 = .ok (.aload_n 0, 1) := by decide +kernel
theorem dX1_cutCount_55 : decode cX1_cutCount 55 = .ok (.iload_n 3, 1) := by decide +kernel
theorem dX1_cutCount_56 : decode cX1_cutCount 56 = .ok (.invokevirtual 54, 3) := by decide +kernel
theorem dX1_cutCount_59 : decode cX1_cutCount 59 = .ok (.iload_n 2, 1) := by decide +kernel
theorem dX1_cutCount_60 : decode cX1_cutCount 60 = .ok (.aload_n 0, 1) := by decide +kernel
theorem dX1_cutCount_61 : decode cX1_cutCount 61 = .ok (.iload_n 2, 1) := by decide +kernel
theorem dX1_cutCount_62 : decode cX1_cutCount 62 = .ok (.invokevirtual 54, 3) := by decide +kernel
theorem dX1_cutCount_65 : decode cX1_cutCount 65 = .ok (.invokevirtual 66, 3) := by decide +kernel
theorem dX1_cutCount_68 : decode cX1_cutCount 68 = .ok (.ifCond .eq 6, 3) := by decide +kernel
theorem dX1_cutCount_71 : decode cX1_cutCount 71 = .ok (.iinc 1 1, 3) := by decide +kernel
theorem dX1_cutCount_74 : decode cX1_cutCount 74 = .ok (.iinc 3 1, 3) := by decide +kernel
theorem dX1_cutCount_77 : decode cX1_cutCount 77 = .ok (.goto (-61), 3) := by decide +kernel
theorem dX1_cutCount_80 : decode cX1_cutCount 80 = .ok (.iinc 2 1, 3) := by decide +kernel
theorem dX1_cutCount_83 : decode cX1_cutCount 83 = .ok (.goto (-79), 3) := by decide +kernel
theorem dX1_cutCount_86 : decode cX1_cutCount 86 = .ok (.iload_n 1, 1) := by decide +kernel
theorem dX1_cutCount_87 : decode cX1_cutCount 87 = .ok (.ireturn, 1) := by decide +kernel
theorem dX1_wrap_0 : decode cX1_wrap 0 = .ok (.aload_n 0, 1) := by decide +kernel
theorem dX1_wrap_1 : decode cX1_wrap 1 = .ok (.invokevirtual 70, 3) := by decide +kernel
theorem dX1_wrap_4 : decode cX1_wrap 4 = .ok (.aload_n 0, 1) := by decide +kernel
theorem dX1_wrap_5 : decode cX1_wrap 5 = .ok (.iconst 0, 1) := by decide +kernel
theorem dX1_wrap_6 : decode cX1_wrap 6 = .ok (.putfield 36, 3) := by decide +kernel
theorem dX1_wrap_9 : decode cX1_wrap 9 = .ok (.iconst 0, 1) := by decide +kernel
theorem dX1_wrap_10 : decode cX1_wrap 10 = .ok (.istore_n 1, 1) := by decide +kernel
theorem dX1_wrap_11 : decode cX1_wrap 11 = .ok (.iload_n 1, 1) := by decide +kernel
theorem dX1_wrap_12 : decode cX1_wrap 12 = .ok (.aload_n 0, 1) := by decide +kernel
theorem dX1_wrap_13 : decode cX1_wrap 13 = .ok (.getfield 33, 3) := by decide +kernel
theorem dX1_wrap_16 : decode cX1_wrap 16 = .ok (.if_icmp .ge 20, 3) := by decide +kernel
theorem dX1_wrap_19 : decode cX1_wrap 19 = .ok (.aload_n 0, 1) := by decide +kernel
theorem dX1_wrap_20 : decode cX1_wrap 20 = .ok (.aload_n 0, 1) := by decide +kernel
theorem dX1_wrap_21 : decode cX1_wrap 21 = .ok (.getfield 23, 3) := by decide +kernel
theorem dX1_wrap_24 : decode cX1_wrap 24 = .ok (.iload_n 1, 1) := by decide +kernel
theorem dX1_wrap_25 : decode cX1_wrap 25 = .ok (.iaload, 1) := by decide +kernel
theorem dX1_wrap_26 : decode cX1_wrap 26 = .ok (.iconst 0, 1) := by decide +kernel
theorem dX1_wrap_27 : decode cX1_wrap 27 = .ok (.invokevirtual 73, 3) := by decide +kernel
theorem dX1_wrap_30 : decode cX1_wrap 30 = .ok (.iinc 1 1, 3) := by decide +kernel
theorem dX1_wrap_33 : decode cX1_wrap 33 = .ok (.goto (-22), 3) := by decide +kernel
theorem dX1_wrap_36 : decode cX1_wrap 36 = .ok (.aload_n 0, 1) := by decide +kernel
theorem dX1_wrap_37 : decode cX1_wrap 37 = .ok (.getfield 36, 3) := by decide +kernel
theorem dX1_wrap_40 : decode cX1_wrap 40 = .ok (.iconst 1, 1) := by decide +kernel
theorem dX1_wrap_41 : decode cX1_wrap 41 = .ok (.isub, 1) := by decide +kernel
theorem dX1_wrap_42 : decode cX1_wrap 42 = .ok (.istore_n 1, 1) := by decide +kernel
theorem dX1_wrap_43 : decode cX1_wrap 43 = .ok (.aload_n 0, 1) := by decide +kernel
theorem dX1_wrap_44 : decode cX1_wrap 44 = .ok (.getfield 33, 3) := by decide +kernel
theorem dX1_wrap_47 : decode cX1_wrap 47 = .ok (.iconst 2, 1) := by decide +kernel
theorem dX1_wrap_48 : decode cX1_wrap 48 = .ok (.isub, 1) := by decide +kernel
theorem dX1_wrap_49 : decode cX1_wrap 49 = .ok (.istore_n 2, 1) := by decide +kernel
theorem dX1_wrap_50 : decode cX1_wrap 50 = .ok (.iload_n 2, 1) := by decide +kernel
theorem dX1_wrap_51 : decode cX1_wrap 51 = .ok (.ifCond .lt 20, 3) := by decide +kernel
theorem dX1_wrap_54 : decode cX1_wrap 54 = .ok (.aload_n 0, 1) := by decide +kernel
theorem dX1_wrap_55 : decode cX1_wrap 55 = .ok (.aload_n 0, 1) := by decide +kernel
theorem dX1_wrap_56 : decode cX1_wrap 56 = .ok (.getfield 23, 3) := by decide +kernel
theorem dX1_wrap_59 : decode cX1_wrap 59 = .ok (.iload_n 2, 1) := by decide +kernel
theorem dX1_wrap_60 : decode cX1_wrap 60 = .ok (.iaload, 1) := by decide +kernel
theorem dX1_wrap_61 : decode cX1_wrap 61 = .ok (.iload_n 1, 1) := by decide +kernel
theorem dX1_wrap_62 : decode cX1_wrap 62 = .ok (.invokevirtual 73, 3) := by decide +kernel
theorem dX1_wrap_65 : decode cX1_wrap 65 = .ok (.iinc 2 (-1), 3) := by decide +kernel
theorem dX1_wrap_68 : decode cX1_wrap 68 = .ok (.goto (-18), 3) := by decide +kernel
theorem dX1_wrap_71 : decode cX1_wrap 71 = .ok (.aload_n 0, 1) := by decide +kernel
theorem dX1_wrap_72 : decode cX1_wrap 72 = .ok (.getfield 36, 3) := by decide +kernel
theorem dX1_wrap_75 : decode cX1_wrap 75 = .ok (.iconst 1, 1) := by decide +kernel
theorem dX1_wrap_76 : decode cX1_wrap 76 = .ok (.if_icmp .le 13, 3) := by decide +kernel
theorem dX1_wrap_79 : decode cX1_wrap 79 = .ok (.aload_n 0, 1) := by decide +kernel
theorem dX1_wrap_80 : decode cX1_wrap 80 = .ok (.dup, 1) := by decide +kernel
theorem dX1_wrap_81 : decode cX1_wrap 81 = .ok (.getfield 36, 3) := by decide +kernel
theorem dX1_wrap_84 : decode cX1_wrap 84 = .ok (.iconst 1, 1) := by decide +kernel
theorem dX1_wrap_85 : decode cX1_wrap 85 = .ok (.isub, 1) := by decide +kernel
theorem dX1_wrap_86 : decode cX1_wrap 86 = .ok (.putfield 36, 3) := by decide +kernel
theorem dX1_wrap_89 : decode cX1_wrap 89 = .ok (.aload_n 0, 1) := by decide +kernel
theorem dX1_wrap_90 : decode cX1_wrap 90 = .ok (.getfield 36, 3) := by decide +kernel
theorem dX1_wrap_93 : decode cX1_wrap 93 = .ok (.ireturn, 1) := by decide +kernel
theorem dX1_putCorner_0 : decode cX1_putCorner 0 = .ok (.aload_n 0, 1) := by decide +kernel
theorem dX1_putCorner_1 : decode cX1_putCorner 1 = .ok (.getfield 36, 3) := by decide +kernel
theorem dX1_putCorner_4 : decode cX1_putCorner 4 = .ok (.iload_n 2, 1) := by decide +kernel
theorem dX1_putCorner_5 : decode cX1_putCorner 5 = .ok (.iconst 2, 1) := by decide +kernel
theorem dX1_putCorner_6 : decode cX1_putCorner 6 = .ok (.iadd, 1) := by decide +kernel
theorem dX1_putCorner_7 : decode cX1_putCorner 7 = .ok (.if_icmp .lt 48, 3) := by decide +kernel
theorem dX1_putCorner_10 : decode cX1_putCorner 10 = .ok (.aload_n 0, 1) := by decide +kernel
theorem dX1_putCorner_11 : decode cX1_putCorner 11 = .ok (.aload_n 0, 1) := by decide +kernel
theorem dX1_putCorner_12 : decode cX1_putCorner 12 = .ok (.getfield 26, 3) := by decide +kernel
theorem dX1_putCorner_15 : decode cX1_putCorner 15 = .ok (.aload_n 0, 1) := by decide +kernel
theorem dX1_putCorner_16 : decode cX1_putCorner 16 = .ok (.getfield 36, 3) := by decide +kernel
theorem dX1_putCorner_19 : decode cX1_putCorner 19 = .ok (.iconst 2, 1) := by decide +kernel
theorem dX1_putCorner_20 : decode cX1_putCorner 20 = .ok (.isub, 1) := by decide +kernel
theorem dX1_putCorner_21 : decode cX1_putCorner 21 = .ok (.iaload, 1) := by decide +kernel
theorem dX1_putCorner_22 : decode cX1_putCorner 22 = .ok (.aload_n 0, 1) := by decide +kernel
theorem dX1_putCorner_23 : decode cX1_putCorner 23 = .ok (.getfield 26, 3) := by decide +kernel
theorem dX1_putCorner_26 : decode cX1_putCorner 26 = .ok (.aload_n 0, 1) := by decide +kernel
theorem dX1_putCorner_27 : decode cX1_putCorner 27 = .ok (.getfield 36, 3) := by decide +kernel
theorem dX1_putCorner_30 : decode cX1_putCorner 30 = .ok (.iconst 1, 1) := by decide +kernel
theorem dX1_putCorner_31 : decode cX1_putCorner 31 = .ok (.isub, 1) := by decide +kernel
theorem dX1_putCorner_32 : decode cX1_putCorner 32 = .ok (.iaload, 1) := by decide +kernel
theorem dX1_putCorner_33 : decode cX1_putCorner 33 = .ok (.iload_n 1, 1) := by decide +kernel
theorem dX1_putCorner_34 : decode cX1_putCorner 34 = .ok (.invokevirtual 62, 3) := by decide +kernel
theorem dX1_putCorner_37 : decode cX1_putCorner 37 = .ok (.lconst 0, 1) := by decide +kernel
theorem dX1_putCorner_38 : decode cX1_putCorner 38 = .ok (.lcmp, 1) := by decide +kernel
theorem dX1_putCorner_39 : decode cX1_putCorner 39 = .ok (.ifCond .gt 16, 3) := by decide +kernel
theorem dX1_putCorner_42 : decode cX1_putCorner 42 = .ok (.aload_n 0, 1) := by decide +kernel
theorem dX1_putCorner_43 : decode cX1_putCorner 43 = .ok (.dup, 1) := by decide +kernel
theorem dX1_putCorner_44 : decode cX1_putCorner 44 = .ok (.getfield 36, 3) := by decide +kernel
theorem dX1_putCorner_47 : decode cX1_putCorner 47 = .ok (.iconst 1, 1) := by decide +kernel
theorem dX1_putCorner_48 : decode cX1_putCorner 48 = .ok (.isub, 1) := by decide +kernel
theorem dX1_putCorner_49 : decode cX1_putCorner 49 = .ok (.putfield 36, 3) := by decide +kernel
theorem dX1_putCorner_52 : decode cX1_putCorner 52 = .ok (.goto (-52), 3) := by decide +kernel
theorem dX1_putCorner_55 : decode cX1_putCorner 55 = .ok (.aload_n 0, 1) := by decide +kernel
theorem dX1_putCorner_56 : decode cX1_putCorner 56 = .ok (.getfield 36, 3) := by decide +kernel
theorem dX1_putCorner_59 : decode cX1_putCorner 59 = .ok (.aload_n 0, 1) := by decide +kernel
theorem dX1_putCorner_60 : decode cX1_putCorner 60 = .ok (.getfield 26, 3) := by decide +kernel
theorem dX1_putCorner_63 : decode cX1_putCorner 63 = .ok (.arraylength, 1) := by decide +kernel
theorem dX1_putCorner_64 : decode cX1_putCorner 64 = .ok (.if_icmp .ge 23, 3) := by decide +kernel
theorem dX1_putCorner_67 : decode cX1_putCorner 67 = .ok (.aload_n 0, 1) := by decide +kernel
theorem dX1_putCorner_68 : decode cX1_putCorner 68 = .ok (.getfield 26, 3) := by decide +kernel
theorem dX1_putCorner_71 : decode cX1_putCorner 71 = .ok (.aload_n 0, 1) := by decide +kernel
theorem dX1_putCorner_72 : decode cX1_putCorner 72 = .ok (.getfield 36, 3) := by decide +kernel
theorem dX1_putCorner_75 : decode cX1_putCorner 75 = .ok (.iload_n 1, 1) := by decide +kernel
theorem dX1_putCorner_76 : decode cX1_putCorner 76 = .ok (.iastore, 1) := by decide +kernel
theorem dX1_putCorner_77 : decode cX1_putCorner 77 = .ok (.aload_n 0, 1) := by decide +kernel
theorem dX1_putCorner_78 : decode cX1_putCorner 78 = .ok (.dup, 1) := by decide +kernel
theorem dX1_putCorner_79 : decode cX1_putCorner 79 = .ok (.getfield 36, 3) := by decide +kernel
theorem dX1_putCorner_82 : decode cX1_putCorner 82 = .ok (.iconst 1, 1) := by decide +kernel
theorem dX1_putCorner_83 : decode cX1_putCorner 83 = .ok (.iadd, 1) := by decide +kernel
theorem dX1_putCorner_84 : decode cX1_putCorner 84 = .ok (.putfield 36, 3) := by decide +kernel
theorem dX1_putCorner_87 : decode cX1_putCorner 87 = .ok (.return_, 1) := by decide +kernel
theorem dX1_sortPlaces_0 : decode cX1_sortPlaces 0 = .ok (.aload_n 0, 1) := by decide +kernel
theorem dX1_sortPlaces_1 : decode cX1_sortPlaces 1 = .ok (.iconst 0, 1) := by decide +kernel
theorem dX1_sortPlaces_2 : decode cX1_sortPlaces 2 = .ok (.putfield 33, 3) := by decide +kernel
theorem dX1_sortPlaces_5 : decode cX1_sortPlaces 5 = .ok (.iconst 0, 1) := by decide +kernel
theorem dX1_sortPlaces_6 : decode cX1_sortPlaces 6 = .ok (.istore_n 1, 1) := by decide +kernel
theorem dX1_sortPlaces_7 : decode cX1_sortPlaces 7 = .ok (.iload_n 1, 1) := by decide +kernel
theorem dX1_sortPlaces_8 : decode cX1_sortPlaces 8 = .ok (.aload_n 0, 1) := by decide +kernel
theorem dX1_sortPlaces_9 : decode cX1_sortPlaces 9 = .ok (.getfield 29, 3) := by decide +kernel
theorem dX1_sortPlaces_12 : decode cX1_sortPlaces 12 = .ok (.if_icmp .ge 98, 3) := by decide +kernel
theorem dX1_sortPlaces_15 : decode cX1_sortPlaces 15 = .ok (.aload_n 0, 1) := by decide +kernel
theorem dX1_sortPlaces_16 : decode cX1_sortPlaces 16 = .ok (.getfield 33, 3) := by decide +kernel
theorem dX1_sortPlaces_19 : decode cX1_sortPlaces 19 = .ok (.istore_n 2, 1) := by decide +kernel
theorem dX1_sortPlaces_20 : decode cX1_sortPlaces 20 = .ok (.iload_n 2, 1) := by decide +kernel
theorem dX1_sortPlaces_21 : decode cX1_sortPlaces 21 = .ok (.ifCond .le 25, 3) := by decide +kernel
theorem dX1_sortPlaces_24 : decode cX1_sortPlaces 24 = .ok (.aload_n 0, 1) := by decide +kernel
theorem dX1_sortPlaces_25 : decode cX1_sortPlaces 25 = .ok (.iload_n 1, 1) := by decide +kernel
theorem dX1_sortPlaces_26 : decode cX1_sortPlaces 26 = .ok (.aload_n 0, 1) := by decide +kernel
theorem dX1_sortPlaces_27 : decode cX1_sortPlaces 27 = .ok (.getfield 23, 3) := by decide +kernel
theorem dX1_sortPlaces_30 : decode cX1_sortPlaces 30 = .ok (.iload_n 2, 1) := by decide +kernel
theorem dX1_sortPlaces_31 : decode cX1_sortPlaces 31 = .ok (.iconst 1, 1) := by decide +kernel
theorem dX1_sortPlaces_32 : decode cX1_sortPlaces 32 = .ok (.isub, 1) := by decide +kernel
theorem dX1_sortPlaces_33 : decode cX1_sortPlaces 33 = .ok (.iaload, 1) := by decide +kernel
theorem dX1_sortPlaces_34 : decode cX1_sortPlaces 34 = .ok (.invokevirtual 77, 3) := by decide +kernel
theorem dX1_sortPlaces_37 : decode cX1_sortPlaces 37 = .ok (.ifCond .eq 9, 3) := by decide +kernel
theorem dX1_sortPlaces_40 : decode cX1_sortPlaces 40 = .ok (.iinc 2 (-1), 3) := by decide +kernel
theorem dX1_sortPlaces_43 : decode cX1_sortPlaces 43 = .ok (.goto (-23), 3) := by decide +kernel
theorem dX1_sortPlaces_46 : decode cX1_sortPlaces 46 = .ok (.iload_n 2, 1) := by decide +kernel
theorem dX1_sortPlaces_47 : decode cX1_sortPlaces 47 = .ok (.ifCond .eq 19, 3) := by decide +kernel
theorem dX1_sortPlaces_50 : decode cX1_sortPlaces 50 = .ok (.aload_n 0, 1) := by decide +kernel
theorem dX1_sortPlaces_51 : decode cX1_sortPlaces 51 = .ok (.aload_n 0, 1) := by decide +kernel
theorem dX1_sortPlaces_52 : decode cX1_sortPlaces 52 = .ok (.getfield 23, 3) := by decide +kernel
theorem dX1_sortPlaces_55 : decode cX1_sortPlaces 55 = .ok (.iload_n 2, 1) := by decide +kernel
theorem dX1_sortPlaces_56 : decode cX1_sortPlaces 56 = .ok (.iconst 1, 1) := by decide +kernel
theorem dX1_sortPlaces_57 : decode cX1_sortPlaces 57 = .ok (.isub, 1) := by decide +kernel
theorem dX1_sortPlaces_58 : decode cX1_sortPlaces 58 = .ok (.iaload, 1) := by decide +kernel
theorem dX1_sortPlaces_59 : decode cX1_sortPlaces 59 = .ok (.iload_n 1, 1) := by decide +kernel
theorem dX1_sortPlaces_60 : decode cX1_sortPlaces 60 = .ok (.invokevirtual 77, 3) := by decide +kernel
theorem dX1_sortPlaces_63 : decode cX1_sortPlaces 63 = .ok (.ifCond .eq 41, 3) := by decide +kernel
theorem dX1_sortPlaces_66 : decode cX1_sortPlaces 66 = .ok (.aload_n 0, 1) := by decide +kernel
theorem dX1_sortPlaces_67 : decode cX1_sortPlaces 67 = .ok (.getfield 23, 3) := by decide +kernel
theorem dX1_sortPlaces_70 : decode cX1_sortPlaces 70 = .ok (.iload_n 2, 1) := by decide +kernel
theorem dX1_sortPlaces_71 : decode cX1_sortPlaces 71 = .ok (.aload_n 0, 1) := by decide +kernel
theorem dX1_sortPlaces_72 : decode cX1_sortPlaces 72 = .ok (.getfield 23, 3) := by decide +kernel
theorem dX1_sortPlaces_75 : decode cX1_sortPlaces 75 = .ok (.iload_n 2, 1) := by decide +kernel
theorem dX1_sortPlaces_76 : decode cX1_sortPlaces 76 = .ok (.iconst 1, 1) := by decide +kernel
theorem dX1_sortPlaces_77 : decode cX1_sortPlaces 77 = .ok (.iadd, 1) := by decide +kernel
theorem dX1_sortPlaces_78 : decode cX1_sortPlaces 78 = .ok (.aload_n 0, 1) := by decide +kernel
theorem dX1_sortPlaces_79 : decode cX1_sortPlaces 79 = .ok (.getfield 33, 3) := by decide +kernel
theorem dX1_sortPlaces_82 : decode cX1_sortPlaces 82 = .ok (.iload_n 2, 1) := by decide +kernel
theorem dX1_sortPlaces_83 : decode cX1_sortPlaces 83 = .ok (.isub, 1) := by decide +kernel
theorem dX1_sortPlaces_84 : decode cX1_sortPlaces 84 = .ok (.invokestatic 81, 3) := by decide +kernel
theorem dX1_sortPlaces_87 : decode cX1_sortPlaces 87 = .ok (.aload_n 0, 1) := by decide +kernel
theorem dX1_sortPlaces_88 : decode cX1_sortPlaces 88 = .ok (.getfield 23, 3) := by decide +kernel
theorem dX1_sortPlaces_91 : decode cX1_sortPlaces 91 = .ok (.iload_n 2, 1) := by decide +kernel
theorem dX1_sortPlaces_92 : decode cX1_sortPlaces 92 = .ok (.iload_n 1, 1) := by decide +kernel
theorem dX1_sortPlaces_93 : decode cX1_sortPlaces 93 = .ok (.iastore, 1) := by decide +kernel
theorem dX1_sortPlaces_94 : decode cX1_sortPlaces 94 = .ok (.aload_n 0, 1) := by decide +kernel
theorem dX1_sortPlaces_95 : decode cX1_sortPlaces 95 = .ok (.dup, 1) := by decide +kernel
theorem dX1_sortPlaces_96 : decode cX1_sortPlaces 96 = .ok (.getfield 33, 3) := by decide +kernel
theorem dX1_sortPlaces_99 : decode cX1_sortPlaces 99 = .ok (.iconst 1, 1) := by decide +kernel
theorem dX1_sortPlaces_100 : decode cX1_sortPlaces 100 = .ok (.iadd, 1) := by decide +kernel
theorem dX1_sortPlaces_101 : decode cX1_sortPlaces 101 = .ok (.putfield 33, 3) := by decide +kernel
theorem dX1_sortPlaces_104 : decode cX1_sortPlaces 104 = .ok (.iinc 1 1, 3) := by decide +kernel
theorem dX1_sortPlaces_107 : decode cX1_sortPlaces 107 = .ok (.goto (-100), 3) := by decide +kernel
theorem dX1_sortPlaces_110 : decode cX1_sortPlaces 110 = .ok (.return_, 1) := by decide +kernel
theorem dX1_isLess_0 : decode cX1_isLess 0 = .ok (.aload_n 0, 1) := by decide +kernel
theorem dX1_isLess_1 : decode cX1_isLess 1 = .ok (.getfield 11, 3) := by decide +kernel
theorem dX1_isLess_4 : decode cX1_isLess 4 = .ok (.iload_n 1, 1) := by decide +kernel
theorem dX1_isLess_5 : decode cX1_isLess 5 = .ok (.iaload, 1) := by decide +kernel
theorem dX1_isLess_6 : decode cX1_isLess 6 = .ok (.aload_n 0, 1) := by decide +kernel
theorem dX1_isLess_7 : decode cX1_isLess 7 = .ok (.getfield 11, 3) := by decide +kernel
theorem dX1_isLess_10 : decode cX1_isLess 10 = .ok (.iload_n 2, 1) := by decide +kernel
theorem dX1_isLess_11 : decode cX1_isLess 11 = .ok (.iaload, 1) := by decide +kernel
theorem dX1_isLess_12 : decode cX1_isLess 12 = .ok (.if_icmp .lt 33, 3) := by decide +kernel
theorem dX1_isLess_15 : decode cX1_isLess 15 = .ok (.aload_n 0, 1) := by decide +kernel
theorem dX1_isLess_16 : decode cX1_isLess 16 = .ok (.getfield 11, 3) := by decide +kernel
theorem dX1_isLess_19 : decode cX1_isLess 19 = .ok (.iload_n 1, 1) := by decide +kernel
theorem dX1_isLess_20 : decode cX1_isLess 20 = .ok (.iaload, 1) := by decide +kernel
theorem dX1_isLess_21 : decode cX1_isLess 21 = .ok (.aload_n 0, 1) := by decide +kernel
theorem dX1_isLess_22 : decode cX1_isLess 22 = .ok (.getfield 11, 3) := by decide +kernel
theorem dX1_isLess_25 : decode cX1_isLess 25 = .ok (.iload_n 2, 1) := by decide +kernel
theorem dX1_isLess_26 : decode cX1_isLess 26 = .ok (.iaload, 1) := by decide +kernel
theorem dX1_isLess_27 : decode cX1_isLess 27 = .ok (.if_icmp .ne 22, 3) := by decide +kernel
theorem dX1_isLess_30 : decode cX1_isLess 30 = .ok (.aload_n 0, 1) := by decide +kernel
theorem dX1_isLess_31 : decode cX1_isLess 31 = .ok (.getfield 17, 3) := by decide +kernel
theorem dX1_isLess_34 : decode cX1_isLess 34 = .ok (.iload_n 1, 1) := by decide +kernel
theorem dX1_isLess_35 : decode cX1_isLess 35 = .ok (.iaload, 1) := by decide +kernel
theorem dX1_isLess_36 : decode cX1_isLess 36 = .ok (.aload_n 0, 1) := by decide +kernel
theorem dX1_isLess_37 : decode cX1_isLess 37 = .ok (.getfield 17, 3) := by decide +kernel
theorem dX1_isLess_40 : decode cX1_isLess 40 = .ok (.iload_n 2, 1) := by decide +kernel
theorem dX1_isLess_41 : decode cX1_isLess 41 = .ok (.iaload, 1) := by decide +kernel
theorem dX1_isLess_42 : decode cX1_isLess 42 = .ok (.if_icmp .ge 7, 3) := by decide +kernel
theorem dX1_isLess_45 : decode cX1_isLess 45 = .ok (.iconst 1, 1) := by decide +kernel
theorem dX1_isLess_46 : decode cX1_isLess 46 = .ok (.goto 4, 3) := by decide +kernel
theorem dX1_isLess_49 : decode cX1_isLess 49 = .ok (.iconst 0, 1) := by decide +kernel
theorem dX1_isLess_50 : decode cX1_isLess 50 = .ok (.ireturn, 1) := by decide +kernel
theorem dX1_cornerAngle_0 : decode cX1_cornerAngle 0 = .ok (.iload_n 1, 1) := by decide +kernel
theorem dX1_cornerAngle_1 : decode cX1_cornerAngle 1 = .ok (.ifCond .lt 25, 3) := by decide +kernel
theorem dX1_cornerAngle_4 : decode cX1_cornerAngle 4 = .ok (.iload_n 1, 1) := by decide +kernel
theorem dX1_cornerAngle_5 : decode cX1_cornerAngle 5 = .ok (.aload_n 0, 1) := by decide +kernel
theorem dX1_cornerAngle_6 : decode cX1_cornerAngle 6 = .ok (.getfield 36, 3) := by decide +kernel
theorem dX1_cornerAngle_9 : decode cX1_cornerAngle 9 = .ok (.if_icmp .ge 17, 3) := by decide +kernel
theorem dX1_cornerAngle_12 : decode cX1_cornerAngle 12 = .ok (.aload_n 0, 1) := by decide +kernel
theorem dX1_cornerAngle_13 : decode cX1_cornerAngle 13 = .ok (.getfield 20, 3) := by decide +kernel
theorem dX1_cornerAngle_16 : decode cX1_cornerAngle 16 = .ok (.aload_n 0, 1) := by decide +kernel
theorem dX1_cornerAngle_17 : decode cX1_cornerAngle 17 = .ok (.getfield 26, 3) := by decide +kernel
theorem dX1_cornerAngle_20 : decode cX1_cornerAngle 20 = .ok (.iload_n 1, 1) := by decide +kernel
theorem dX1_cornerAngle_21 : decode cX1_cornerAngle 21 = .ok (.iaload, 1) := by decide +kernel
theorem dX1_cornerAngle_22 : decode cX1_cornerAngle 22 = .ok (.iaload, 1) := by decide +kernel
theorem dX1_cornerAngle_23 : decode cX1_cornerAngle 23 = .ok (.goto 4, 3) := by decide +kernel
theorem dX1_cornerAngle_26 : decode cX1_cornerAngle 26 = .ok (.iconst (-1), 1) := by decide +kernel
theorem dX1_cornerAngle_27 : decode cX1_cornerAngle 27 = .ok (.ireturn, 1) := by decide +kernel
theorem dX1_wrappedTwice_0 : decode cX1_wrappedTwice 0 = .ok (.lconst 0, 1) := by decide +kernel
theorem dX1_wrappedTwice_1 : decode cX1_wrappedTwice 1 = .ok (.lstore_n 1, 1) := by decide +kernel
theorem dX1_wrappedTwice_2 : decode cX1_wrappedTwice 2 = .ok (.iconst 0, 1) := by decide +kernel
theorem dX1_wrappedTwice_3 : decode cX1_wrappedTwice 3 = .ok (.istore_n 3, 1) := by decide +kernel
theorem dX1_wrappedTwice_4 : decode cX1_wrappedTwice 4 = .ok (.iload_n 3, 1) := by decide +kernel
theorem dX1_wrappedTwice_5 : decode cX1_wrappedTwice 5 = .ok (.aload_n 0, 1) := by decide +kernel
theorem dX1_wrappedTwice_6 : decode cX1_wrappedTwice 6 = .ok (.getfield 36, 3) := by decide +kernel
theorem dX1_wrappedTwice_9 : decode cX1_wrappedTwice 9 = .ok (.if_icmp .ge 44, 3) := by decide +kernel
theorem dX1_wrappedTwice_12 : decode cX1_wrappedTwice 12 = .ok (.lload_n 1, 1) := by decide +kernel
theorem dX1_wrappedTwice_13 : decode cX1_wrappedTwice 13 = .ok (.aload_n 0, 1) := by decide +kernel
theorem dX1_wrappedTwice_14 : decode cX1_wrappedTwice 14 = .ok (.aload_n 0, 1) := by decide +kernel
theorem dX1_wrappedTwice_15 : decode cX1_wrappedTwice 15 = .ok (.getfield 26, 3) := by decide +kernel
theorem dX1_wrappedTwice_18 : decode cX1_wrappedTwice 18 = .ok (.iload_n 3, 1) := by decide +kernel
theorem dX1_wrappedTwice_19 : decode cX1_wrappedTwice 19 = .ok (.iaload, 1) := by decide +kernel
theorem dX1_wrappedTwice_20 : decode cX1_wrappedTwice 20 = .ok (.aload_n 0, 1) := by decide +kernel
theorem dX1_wrappedTwice_21 : decode cX1_wrappedTwice 21 = .ok (.getfield 26, 3) := by decide +kernel
theorem dX1_wrappedTwice_24 : decode cX1_wrappedTwice 24 = .ok (.iload_n 3, 1) := by decide +kernel
theorem dX1_wrappedTwice_25 : decode cX1_wrappedTwice 25 = .ok (.iconst 1, 1) := by decide +kernel
theorem dX1_wrappedTwice_26 : decode cX1_wrappedTwice 26 = .ok (.iadd, 1) := by decide +kernel
theorem dX1_wrappedTwice_27 : decode cX1_wrappedTwice 27 = .ok (.aload_n 0, 1) := by decide +kernel
theorem dX1_wrappedTwice_28 : decode cX1_wrappedTwice 28 = .ok (.getfield 36, 3) := by decide +kernel
theorem dX1_wrappedTwice_31 : decode cX1_wrappedTwice 31 = .ok (.if_icmp .ge 9, 3) := by decide +kernel
theorem dX1_wrappedTwice_34 : decode cX1_wrappedTwice 34 = .ok (.iload_n 3, 1) := by decide +kernel
theorem dX1_wrappedTwice_35 : decode cX1_wrappedTwice 35 = .ok (.iconst 1, 1) := by decide +kernel
theorem dX1_wrappedTwice_36 : decode cX1_wrappedTwice 36 = .ok (.iadd, 1) := by decide +kernel
theorem dX1_wrappedTwice_37 : decode cX1_wrappedTwice 37 = .ok (.goto 4, 3) := by decide +kernel
theorem dX1_wrappedTwice_40 : decode cX1_wrappedTwice 40 = .ok (.iconst 0, 1) := by decide +kernel
theorem dX1_wrappedTwice_41 : decode cX1_wrappedTwice 41 = .ok (.iaload, 1) := by decide +kernel
theorem dX1_wrappedTwice_42 : decode cX1_wrappedTwice 42 = .ok (.invokevirtual 58, 3) := by decide +kernel
theorem dX1_wrappedTwice_45 : decode cX1_wrappedTwice 45 = .ok (.ladd, 1) := by decide +kernel
theorem dX1_wrappedTwice_46 : decode cX1_wrappedTwice 46 = .ok (.lstore_n 1, 1) := by decide +kernel
theorem dX1_wrappedTwice_47 : decode cX1_wrappedTwice 47 = .ok (.iinc 3 1, 3) := by decide +kernel
theorem dX1_wrappedTwice_50 : decode cX1_wrappedTwice 50 = .ok (.goto (-46), 3) := by decide +kernel
theorem dX1_wrappedTwice_53 : decode cX1_wrappedTwice 53 = .ok (.lload_n 1, 1) := by decide +kernel
theorem dX1_wrappedTwice_54 : decode cX1_wrappedTwice 54 = .ok (.lreturn, 1) := by decide +kernel
theorem dX1_findRun_0 : decode cX1_findRun 0 = .ok (.aload_n 0, 1) := by decide +kernel
theorem dX1_findRun_1 : decode cX1_findRun 1 = .ok (.getfield 29, 3) := by decide +kernel
theorem dX1_findRun_4 : decode cX1_findRun 4 = .ok (.istore_n 2, 1) := by decide +kernel
theorem dX1_findRun_5 : decode cX1_findRun 5 = .ok (.iload_n 2, 1) := by decide +kernel
theorem dX1_findRun_6 : decode cX1_findRun 6 = .ok (.ifCond .le 52, 3) := by decide +kernel
theorem dX1_findRun_9 : decode cX1_findRun 9 = .ok (.iconst 0, 1) := by decide +kernel
theorem dX1_findRun_10 : decode cX1_findRun 10 = .ok (.istore_n 3, 1) := by decide +kernel
theorem dX1_findRun_11 : decode cX1_findRun 11 = .ok (.iload_n 3, 1) := by decide +kernel
theorem dX1_findRun_12 : decode cX1_findRun 12 = .ok (.iload_n 2, 1) := by decide +kernel
theorem dX1_findRun_13 : decode cX1_findRun 13 = .ok (.iadd, 1) := by decide +kernel
theorem dX1_findRun_14 : decode cX1_findRun 14 = .ok (.aload_n 0, 1) := by decide +kernel
theorem dX1_findRun_15 : decode cX1_findRun 15 = .ok (.getfield 29, 3) := by decide +kernel
theorem dX1_findRun_18 : decode cX1_findRun 18 = .ok (.if_icmp .gt 34, 3) := by decide +kernel
theorem dX1_findRun_21 : decode cX1_findRun 21 = .ok (.aload_n 0, 1) := by decide +kernel
theorem dX1_findRun_22 : decode cX1_findRun 22 = .ok (.iload_n 3, 1) := by decide +kernel
theorem dX1_findRun_23 : decode cX1_findRun 23 = .ok (.iload_n 3, 1) := by decide +kernel
theorem dX1_findRun_24 : decode cX1_findRun 24 = .ok (.iload_n 2, 1) := by decide +kernel
theorem dX1_findRun_25 : decode cX1_findRun 25 = .ok (.iadd, 1) := by decide +kernel
theorem dX1_findRun_26 : decode cX1_findRun 26 = .ok (.iconst 1, 1) := by decide +kernel
theorem dX1_findRun_27 : decode cX1_findRun 27 = .ok (.isub, 1) := by decide +kernel
theorem dX1_findRun_28 : decode cX1_findRun 28 = .ok (.iload_n 1, 1) := by decide +kernel
theorem dX1_findRun_29 : decode cX1_findRun 29 = .ok (.invokevirtual 87, 3) := by decide +kernel
theorem dX1_findRun_32 : decode cX1_findRun 32 = .ok (.ifCond .eq 14, 3) := by decide +kernel
theorem dX1_findRun_35 : decode cX1_findRun 35 = .ok (.aload_n 0, 1) := by decide +kernel
theorem dX1_findRun_36 : decode cX1_findRun 36 = .ok (.iload_n 3, 1) := by decide +kernel
theorem dX1_findRun_37 : decode cX1_findRun 37 = .ok (.putfield 39, 3) := by decide +kernel
theorem dX1_findRun_40 : decode cX1_findRun 40 = .ok (.aload_n 0, 1) := by decide +kernel
theorem dX1_findRun_41 : decode cX1_findRun 41 = .ok (.iload_n 2, 1) := by decide +kernel
theorem dX1_findRun_42 : decode cX1_findRun 42 = .ok (.putfield 42, 3) := by decide +kernel
theorem dX1_findRun_45 : decode cX1_findRun 45 = .ok (.return_, 1) := by decide +kernel
theorem dX1_findRun_46 : decode cX1_findRun 46 = .ok (.iinc 3 1, 3) := by decide +kernel
theorem dX1_findRun_49 : decode cX1_findRun 49 = .ok (.goto (-38), 3) := by decide +kernel
theorem dX1_findRun_52 : decode cX1_findRun 52 = .ok (.iinc 2 (-1), 3) := by decide +kernel
theorem dX1_findRun_55 : decode cX1_findRun 55 = .ok (.goto (-50), 3) := by decide +kernel
theorem dX1_findRun_58 : decode cX1_findRun 58 = .ok (.aload_n 0, 1) := by decide +kernel
theorem dX1_findRun_59 : decode cX1_findRun 59 = .ok (.iconst 0, 1) := by decide +kernel
theorem dX1_findRun_60 : decode cX1_findRun 60 = .ok (.putfield 42, 3) := by decide +kernel
theorem dX1_findRun_63 : decode cX1_findRun 63 = .ok (.return_, 1) := by decide +kernel
theorem dX1_isRun_0 : decode cX1_isRun 0 = .ok (.iload_n 3, 1) := by decide +kernel
theorem dX1_isRun_1 : decode cX1_isRun 1 = .ok (.i2l, 1) := by decide +kernel
theorem dX1_isRun_2 : decode cX1_isRun 2 = .ok (.iload_n 3, 1) := by decide +kernel
theorem dX1_isRun_3 : decode cX1_isRun 3 = .ok (.i2l, 1) := by decide +kernel
theorem dX1_isRun_4 : decode cX1_isRun 4 = .ok (.lmul, 1) := by decide +kernel
theorem dX1_isRun_5 : decode cX1_isRun 5 = .ok (.lstore 4, 2) := by decide +kernel
theorem dX1_isRun_7 : decode cX1_isRun 7 = .ok (.aload_n 0, 1) := by decide +kernel
theorem dX1_isRun_8 : decode cX1_isRun 8 = .ok (.iload_n 1, 1) := by decide +kernel
theorem dX1_isRun_9 : decode cX1_isRun 9 = .ok (.aload_n 0, 1) := by decide +kernel
theorem dX1_isRun_10 : decode cX1_isRun 10 = .ok (.getfield 11, 3) := by decide +kernel
theorem dX1_isRun_13 : decode cX1_isRun 13 = .ok (.iload_n 2, 1) := by decide +kernel
theorem dX1_isRun_14 : decode cX1_isRun 14 = .ok (.iaload, 1) := by decide +kernel
theorem dX1_isRun_15 : decode cX1_isRun 15 = .ok (.aload_n 0, 1) := by decide +kernel
theorem dX1_isRun_16 : decode cX1_isRun 16 = .ok (.getfield 17, 3) := by decide +kernel
theorem dX1_isRun_19 : decode cX1_isRun 19 = .ok (.iload_n 2, 1) := by decide +kernel
theorem dX1_isRun_20 : decode cX1_isRun 20 = .ok (.iaload, 1) := by decide +kernel
theorem dX1_isRun_21 : decode cX1_isRun 21 = .ok (.invokevirtual 91, 3) := by decide +kernel
theorem dX1_isRun_24 : decode cX1_isRun 24 = .ok (.i2l, 1) := by decide +kernel
theorem dX1_isRun_25 : decode cX1_isRun 25 = .ok (.lstore 6, 2) := by decide +kernel
theorem dX1_isRun_27 : decode cX1_isRun 27 = .ok (.iload_n 1, 1) := by decide +kernel
theorem dX1_isRun_28 : decode cX1_isRun 28 = .ok (.iconst 1, 1) := by decide +kernel
theorem dX1_isRun_29 : decode cX1_isRun 29 = .ok (.iadd, 1) := by decide +kernel
theorem dX1_isRun_30 : decode cX1_isRun 30 = .ok (.istore 8, 2) := by decide +kernel
theorem dX1_isRun_32 : decode cX1_isRun 32 = .ok (.iload 8, 2) := by decide +kernel
theorem dX1_isRun_34 : decode cX1_isRun 34 = .ok (.iload_n 2, 1) := by decide +kernel
theorem dX1_isRun_35 : decode cX1_isRun 35 = .ok (.if_icmp .ge 87, 3) := by decide +kernel
theorem dX1_isRun_38 : decode cX1_isRun 38 = .ok (.aload_n 0, 1) := by decide +kernel
theorem dX1_isRun_39 : decode cX1_isRun 39 = .ok (.iload_n 1, 1) := by decide +kernel
theorem dX1_isRun_40 : decode cX1_isRun 40 = .ok (.iload_n 2, 1) := by decide +kernel
theorem dX1_isRun_41 : decode cX1_isRun 41 = .ok (.iload 8, 2) := by decide +kernel
theorem dX1_isRun_43 : decode cX1_isRun 43 = .ok (.invokevirtual 62, 3) := by decide +kernel
theorem dX1_isRun_46 : decode cX1_isRun 46 = .ok (.lstore 9, 2) := by decide +kernel
theorem dX1_isRun_48 : decode cX1_isRun 48 = .ok (.lload 6, 2) := by decide +kernel
theorem dX1_isRun_50 : decode cX1_isRun 50 = .ok (.lconst 0, 1) := by decide +kernel
theorem dX1_isRun_51 : decode cX1_isRun 51 = .ok (.lcmp, 1) := by decide +kernel
theorem dX1_isRun_52 : decode cX1_isRun 52 = .ok (.ifCond .ne 36, 3) := by decide +kernel
theorem dX1_isRun_55 : decode cX1_isRun 55 = .ok (.aload_n 0, 1) := by decide +kernel
theorem dX1_isRun_56 : decode cX1_isRun 56 = .ok (.iload 8, 2) := by decide +kernel
theorem dX1_isRun_58 : decode cX1_isRun 58 = .ok (.aload_n 0, 1) := by decide +kernel
theorem dX1_isRun_59 : decode cX1_isRun 59 = .ok (.getfield 11, 3) := by decide +kernel
theorem dX1_isRun_62 : decode cX1_isRun 62 = .ok (.iload_n 1, 1) := by decide +kernel
theorem dX1_isRun_63 : decode cX1_isRun 63 = .ok (.iaload, 1) := by decide +kernel
theorem dX1_isRun_64 : decode cX1_isRun 64 = .ok (.aload_n 0, 1) := by decide +kernel
theorem dX1_isRun_65 : decode cX1_isRun 65 = .ok (.getfield 17, 3) := by decide +kernel
theorem dX1_isRun_68 : decode cX1_isRun 68 = .ok (.iload_n 1, 1) := by decide +kernel
theorem dX1_isRun_69 : decode cX1_isRun 69 = .ok (.iaload, 1) := by decide +kernel
theorem dX1_isRun_70 : decode cX1_isRun 70 = .ok (.invokevirtual 91, 3) := by decide +kernel
theorem dX1_isRun_73 : decode cX1_isRun 73 = .ok (.i2l, 1) := by decide +kernel
theorem dX1_isRun_74 : decode cX1_isRun 74 = .ok (.lload 4, 2) := by decide +kernel
theorem dX1_isRun_76 : decode cX1_isRun 76 = .ok (.lcmp, 1) := by decide +kernel
theorem dX1_isRun_77 : decode cX1_isRun 77 = .ok (.ifCond .le 7, 3) := by decide +kernel
theorem dX1_isRun_80 : decode cX1_isRun 80 = .ok (.iconst 1, 1) := by decide +kernel
theorem dX1_isRun_81 : decode cX1_isRun 81 = .ok (.goto 26, 3) := by decide +kernel
theorem dX1_isRun_84 : decode cX1_isRun 84 = .ok (.iconst 0, 1) := by decide +kernel
theorem dX1_isRun_85 : decode cX1_isRun 85 = .ok (.goto 22, 3) := by decide +kernel
theorem dX1_isRun_88 : decode cX1_isRun 88 = .ok (.lload 9, 2) := by decide +kernel
theorem dX1_isRun_90 : decode cX1_isRun 90 = .ok (.lload 9, 2) := by decide +kernel
theorem dX1_isRun_92 : decode cX1_isRun 92 = .ok (.lmul, 1) := by decide +kernel
theorem dX1_isRun_93 : decode cX1_isRun 93 = .ok (.lload 4, 2) := by decide +kernel
theorem dX1_isRun_95 : decode cX1_isRun 95 = .ok (.lload 6, 2) := by decide +kernel
theorem dX1_isRun_97 : decode cX1_isRun 97 = .ok (.lmul, 1) := by decide +kernel
theorem dX1_isRun_98 : decode cX1_isRun 98 = .ok (.lcmp, 1) := by decide +kernel
theorem dX1_isRun_99 : decode cX1_isRun 99 = .ok (.ifCond .le 7, 3) := by decide +kernel
theorem dX1_isRun_102 : decode cX1_isRun 102 = .ok (.iconst 1, 1) := by decide +kernel
theorem dX1_isRun_103 : decode cX1_isRun 103 = .ok (.goto 4, 3) := by decide +kernel
theorem dX1_isRun_106 : decode cX1_isRun 106 = .ok (.iconst 0, 1) := by decide +kernel
theorem dX1_isRun_107 : decode cX1_isRun 107 = .ok (.istore 11, 2) := by decide +kernel
theorem dX1_isRun_109 : decode cX1_isRun 109 = .ok (.iload 11, 2) := by decide +kernel
theorem dX1_isRun_111 : decode cX1_isRun 111 = .ok (.ifCond .eq 5, 3) := by decide +kernel
theorem dX1_isRun_114 : decode cX1_isRun 114 = .ok (.iconst 0, 1) := by decide +kernel
theorem dX1_isRun_115 : decode cX1_isRun 115 = .ok (.ireturn, 1) := by decide +kernel
theorem dX1_isRun_116 : decode cX1_isRun 116 = .ok (.iinc 8 1, 3) := by decide +kernel
theorem dX1_isRun_119 : decode cX1_isRun 119 = .ok (.goto (-87), 3) := by decide +kernel
theorem dX1_isRun_122 : decode cX1_isRun 122 = .ok (.iconst 1, 1) := by decide +kernel
theorem dX1_isRun_123 : decode cX1_isRun 123 = .ok (.ireturn, 1) := by decide +kernel
theorem dX1_runLength_0 : decode cX1_runLength 0 = .ok (.aload_n 0, 1) := by decide +kernel
theorem dX1_runLength_1 : decode cX1_runLength 1 = .ok (.getfield 42, 3) := by decide +kernel
theorem dX1_runLength_4 : decode cX1_runLength 4 = .ok (.ireturn, 1) := by decide +kernel
theorem dX1_runAngle_0 : decode cX1_runAngle 0 = .ok (.aload_n 0, 1) := by decide +kernel
theorem dX1_runAngle_1 : decode cX1_runAngle 1 = .ok (.getfield 42, 3) := by decide +kernel
theorem dX1_runAngle_4 : decode cX1_runAngle 4 = .ok (.ifCond .le 15, 3) := by decide +kernel
theorem dX1_runAngle_7 : decode cX1_runAngle 7 = .ok (.aload_n 0, 1) := by decide +kernel
theorem dX1_runAngle_8 : decode cX1_runAngle 8 = .ok (.getfield 20, 3) := by decide +kernel
theorem dX1_runAngle_11 : decode cX1_runAngle 11 = .ok (.aload_n 0, 1) := by decide +kernel
theorem dX1_runAngle_12 : decode cX1_runAngle 12 = .ok (.getfield 39, 3) := by decide +kernel
theorem dX1_runAngle_15 : decode cX1_runAngle 15 = .ok (.iaload, 1) := by decide +kernel
theorem dX1_runAngle_16 : decode cX1_runAngle 16 = .ok (.goto 5, 3) := by decide +kernel
theorem dX1_runAngle_19 : decode cX1_runAngle 19 = .ok (.bipush (-2), 2) := by decide +kernel
theorem dX1_runAngle_21 : decode cX1_runAngle 21 = .ok (.ireturn, 1) := by decide +kernel
theorem dX1_squareFrom_0 : decode cX1_squareFrom 0 = .ok (.aload_n 0, 1) := by decide +kernel
theorem dX1_squareFrom_1 : decode cX1_squareFrom 1 = .ok (.getfield 11, 3) := by decide +kernel
theorem dX1_squareFrom_4 : decode cX1_squareFrom 4 = .ok (.iload_n 1, 1) := by decide +kernel
theorem dX1_squareFrom_5 : decode cX1_squareFrom 5 = .ok (.iaload, 1) := by decide +kernel
theorem dX1_squareFrom_6 : decode cX1_squareFrom 6 = .ok (.iload_n 2, 1) := by decide +kernel
theorem dX1_squareFrom_7 : decode cX1_squareFrom 7 = .ok (.isub, 1) := by decide +kernel
theorem dX1_squareFrom_8 : decode cX1_squareFrom 8 = .ok (.aload_n 0, 1) := by decide +kernel
theorem dX1_squareFrom_9 : decode cX1_squareFrom 9 = .ok (.getfield 11, 3) := by decide +kernel
theorem dX1_squareFrom_12 : decode cX1_squareFrom 12 = .ok (.iload_n 1, 1) := by decide +kernel
theorem dX1_squareFrom_13 : decode cX1_squareFrom 13 = .ok (.iaload, 1) := by decide +kernel
theorem dX1_squareFrom_14 : decode cX1_squareFrom 14 = .ok (.iload_n 2, 1) := by decide +kernel
theorem dX1_squareFrom_15 : decode cX1_squareFrom 15 = .ok (.isub, 1) := by decide +kernel
theorem dX1_squareFrom_16 : decode cX1_squareFrom 16 = .ok (.imul, 1) := by decide +kernel
theorem dX1_squareFrom_17 : decode cX1_squareFrom 17 = .ok (.aload_n 0, 1) := by decide +kernel
theorem dX1_squareFrom_18 : decode cX1_squareFrom 18 = .ok (.getfield 17, 3) := by decide +kernel
theorem dX1_squareFrom_21 : decode cX1_squareFrom 21 = .ok (.iload_n 1, 1) := by decide +kernel
theorem dX1_squareFrom_22 : decode cX1_squareFrom 22 = .ok (.iaload, 1) := by decide +kernel
theorem dX1_squareFrom_23 : decode cX1_squareFrom 23 = .ok (.iload_n 3, 1) := by decide +kernel
theorem dX1_squareFrom_24 : decode cX1_squareFrom 24 = .ok (.isub, 1) := by decide +kernel
theorem dX1_squareFrom_25 : decode cX1_squareFrom 25 = .ok (.aload_n 0, 1) := by decide +kernel
theorem dX1_squareFrom_26 : decode cX1_squareFrom 26 = .ok (.getfield 17, 3) := by decide +kernel
theorem dX1_squareFrom_29 : decode cX1_squareFrom 29 = .ok (.iload_n 1, 1) := by decide +kernel
theorem dX1_squareFrom_30 : decode cX1_squareFrom 30 = .ok (.iaload, 1) := by decide +kernel
theorem dX1_squareFrom_31 : decode cX1_squareFrom 31 = .ok (.iload_n 3, 1) := by decide +kernel
theorem dX1_squareFrom_32 : decode cX1_squareFrom 32 = .ok (.isub, 1) := by decide +kernel
theorem dX1_squareFrom_33 : decode cX1_squareFrom 33 = .ok (.imul, 1) := by decide +kernel
theorem dX1_squareFrom_34 : decode cX1_squareFrom 34 = .ok (.iadd, 1) := by decide +kernel
theorem dX1_squareFrom_35 : decode cX1_squareFrom 35 = .ok (.ireturn, 1) := by decide +kernel
theorem dX1_leastMiss_0 : decode cX1_leastMiss 0 = .ok (.aload_n 0, 1) := by decide +kernel
theorem dX1_leastMiss_1 : decode cX1_leastMiss 1 = .ok (.iconst 0, 1) := by decide +kernel
theorem dX1_leastMiss_2 : decode cX1_leastMiss 2 = .ok (.iload_n 1, 1) := by decide +kernel
theorem dX1_leastMiss_3 : decode cX1_leastMiss 3 = .ok (.iload_n 2, 1) := by decide +kernel
theorem dX1_leastMiss_4 : decode cX1_leastMiss 4 = .ok (.invokevirtual 91, 3) := by decide +kernel
theorem dX1_leastMiss_7 : decode cX1_leastMiss 7 = .ok (.istore_n 3, 1) := by decide +kernel
theorem dX1_leastMiss_8 : decode cX1_leastMiss 8 = .ok (.iconst 1, 1) := by decide +kernel
theorem dX1_leastMiss_9 : decode cX1_leastMiss 9 = .ok (.istore 4, 2) := by decide +kernel
theorem dX1_leastMiss_11 : decode cX1_leastMiss 11 = .ok (.iload 4, 2) := by decide +kernel
theorem dX1_leastMiss_13 : decode cX1_leastMiss 13 = .ok (.aload_n 0, 1) := by decide +kernel
theorem dX1_leastMiss_14 : decode cX1_leastMiss 14 = .ok (.getfield 29, 3) := by decide +kernel
theorem dX1_leastMiss_17 : decode cX1_leastMiss 17 = .ok (.if_icmp .ge 22, 3) := by decide +kernel
theorem dX1_leastMiss_20 : decode cX1_leastMiss 20 = .ok (.iload_n 3, 1) := by decide +kernel
theorem dX1_leastMiss_21 : decode cX1_leastMiss 21 = .ok (.aload_n 0, 1) := by decide +kernel
theorem dX1_leastMiss_22 : decode cX1_leastMiss 22 = .ok (.iload 4, 2) := by decide +kernel
theorem dX1_leastMiss_24 : decode cX1_leastMiss 24 = .ok (.iload_n 1, 1) := by decide +kernel
theorem dX1_leastMiss_25 : decode cX1_leastMiss 25 = .ok (.iload_n 2, 1) := by decide +kernel
theorem dX1_leastMiss_26 : decode cX1_leastMiss 26 = .ok (.invokevirtual 91, 3) := by decide +kernel
theorem dX1_leastMiss_29 : decode cX1_leastMiss 29 = .ok (.invokestatic 45, 3) := by decide +kernel
theorem dX1_leastMiss_32 : decode cX1_leastMiss 32 = .ok (.istore_n 3, 1) := by decide +kernel
theorem dX1_leastMiss_33 : decode cX1_leastMiss 33 = .ok (.iinc 4 1, 3) := by decide +kernel
theorem dX1_leastMiss_36 : decode cX1_leastMiss 36 = .ok (.goto (-25), 3) := by decide +kernel
theorem dX1_leastMiss_39 : decode cX1_leastMiss 39 = .ok (.iload_n 3, 1) := by decide +kernel
theorem dX1_leastMiss_40 : decode cX1_leastMiss 40 = .ok (.ireturn, 1) := by decide +kernel
theorem dX1_angleByMiss_0 : decode cX1_angleByMiss 0 = .ok (.iconst 0, 1) := by decide +kernel
theorem dX1_angleByMiss_1 : decode cX1_angleByMiss 1 = .ok (.istore 4, 2) := by decide +kernel
theorem dX1_angleByMiss_3 : decode cX1_angleByMiss 3 = .ok (.iload 4, 2) := by decide +kernel
theorem dX1_angleByMiss_5 : decode cX1_angleByMiss 5 = .ok (.aload_n 0, 1) := by decide +kernel
theorem dX1_angleByMiss_6 : decode cX1_angleByMiss 6 = .ok (.getfield 29, 3) := by decide +kernel
theorem dX1_angleByMiss_9 : decode cX1_angleByMiss 9 = .ok (.if_icmp .ge 29, 3) := by decide +kernel
theorem dX1_angleByMiss_12 : decode cX1_angleByMiss 12 = .ok (.aload_n 0, 1) := by decide +kernel
theorem dX1_angleByMiss_13 : decode cX1_angleByMiss 13 = .ok (.iload 4, 2) := by decide +kernel
theorem dX1_angleByMiss_15 : decode cX1_angleByMiss 15 = .ok (.iload_n 1, 1) := by decide +kernel
theorem dX1_angleByMiss_16 : decode cX1_angleByMiss 16 = .ok (.iload_n 2, 1) := by decide +kernel
theorem dX1_angleByMiss_17 : decode cX1_angleByMiss 17 = .ok (.invokevirtual 95, 3) := by decide +kernel
theorem dX1_angleByMiss_20 : decode cX1_angleByMiss 20 = .ok (.iload_n 3, 1) := by decide +kernel
theorem dX1_angleByMiss_21 : decode cX1_angleByMiss 21 = .ok (.if_icmp .ne 11, 3) := by decide +kernel
theorem dX1_angleByMiss_24 : decode cX1_angleByMiss 24 = .ok (.aload_n 0, 1) := by decide +kernel
theorem dX1_angleByMiss_25 : decode cX1_angleByMiss 25 = .ok (.getfield 20, 3) := by decide +kernel
theorem dX1_angleByMiss_28 : decode cX1_angleByMiss 28 = .ok (.iload 4, 2) := by decide +kernel
theorem dX1_angleByMiss_30 : decode cX1_angleByMiss 30 = .ok (.iaload, 1) := by decide +kernel
theorem dX1_angleByMiss_31 : decode cX1_angleByMiss 31 = .ok (.ireturn, 1) := by decide +kernel
theorem dX1_angleByMiss_32 : decode cX1_angleByMiss 32 = .ok (.iinc 4 1, 3) := by decide +kernel
theorem dX1_angleByMiss_35 : decode cX1_angleByMiss 35 = .ok (.goto (-32), 3) := by decide +kernel
theorem dX1_angleByMiss_38 : decode cX1_angleByMiss 38 = .ok (.iconst (-1), 1) := by decide +kernel
theorem dX1_angleByMiss_39 : decode cX1_angleByMiss 39 = .ok (.ireturn, 1) := by decide +kernel
theorem dX1_placeByMiss_0 : decode cX1_placeByMiss 0 = .ok (.aload_n 0, 1) := by decide +kernel
theorem dX1_placeByMiss_1 : decode cX1_placeByMiss 1 = .ok (.iload_n 1, 1) := by decide +kernel
theorem dX1_placeByMiss_2 : decode cX1_placeByMiss 2 = .ok (.iload_n 2, 1) := by decide +kernel
theorem dX1_placeByMiss_3 : decode cX1_placeByMiss 3 = .ok (.iload_n 3, 1) := by decide +kernel
theorem dX1_placeByMiss_4 : decode cX1_placeByMiss 4 = .ok (.invokevirtual 91, 3) := by decide +kernel
theorem dX1_placeByMiss_7 : decode cX1_placeByMiss 7 = .ok (.istore 4, 2) := by decide +kernel
theorem dX1_placeByMiss_9 : decode cX1_placeByMiss 9 = .ok (.iconst 0, 1) := by decide +kernel
theorem dX1_placeByMiss_10 : decode cX1_placeByMiss 10 = .ok (.istore 5, 2) := by decide +kernel
theorem dX1_placeByMiss_12 : decode cX1_placeByMiss 12 = .ok (.iconst 0, 1) := by decide +kernel
theorem dX1_placeByMiss_13 : decode cX1_placeByMiss 13 = .ok (.istore 6, 2) := by decide +kernel
theorem dX1_placeByMiss_15 : decode cX1_placeByMiss 15 = .ok (.iload 6, 2) := by decide +kernel
theorem dX1_placeByMiss_17 : decode cX1_placeByMiss 17 = .ok (.aload_n 0, 1) := by decide +kernel
theorem dX1_placeByMiss_18 : decode cX1_placeByMiss 18 = .ok (.getfield 29, 3) := by decide +kernel
theorem dX1_placeByMiss_21 : decode cX1_placeByMiss 21 = .ok (.if_icmp .ge 42, 3) := by decide +kernel
theorem dX1_placeByMiss_24 : decode cX1_placeByMiss 24 = .ok (.aload_n 0, 1) := by decide +kernel
theorem dX1_placeByMiss_25 : decode cX1_placeByMiss 25 = .ok (.iload 6, 2) := by decide +kernel
theorem dX1_placeByMiss_27 : decode cX1_placeByMiss 27 = .ok (.iload_n 2, 1) := by decide +kernel
theorem dX1_placeByMiss_28 : decode cX1_placeByMiss 28 = .ok (.iload_n 3, 1) := by decide +kernel
theorem dX1_placeByMiss_29 : decode cX1_placeByMiss 29 = .ok (.invokevirtual 91, 3) := by decide +kernel
theorem dX1_placeByMiss_32 : decode cX1_placeByMiss 32 = .ok (.istore 7, 2) := by decide +kernel
theorem dX1_placeByMiss_34 : decode cX1_placeByMiss 34 = .ok (.iload 7, 2) := by decide +kernel
theorem dX1_placeByMiss_36 : decode cX1_placeByMiss 36 = .ok (.iload 4, 2) := by decide +kernel
theorem dX1_placeByMiss_38 : decode cX1_placeByMiss 38 = .ok (.if_icmp .lt 16, 3) := by decide +kernel
theorem dX1_placeByMiss_41 : decode cX1_placeByMiss 41 = .ok (.iload 7, 2) := by decide +kernel
theorem dX1_placeByMiss_43 : decode cX1_placeByMiss 43 = .ok (.iload 4, 2) := by decide +kernel
theorem dX1_placeByMiss_45 : decode cX1_placeByMiss 45 = .ok (.if_icmp .ne 12, 3) := by decide +kernel
theorem dX1_placeByMiss_48 : decode cX1_placeByMiss 48 = .ok (.iload 6, 2) := by decide +kernel
theorem dX1_placeByMiss_50 : decode cX1_placeByMiss 50 = .ok (.iload_n 1, 1) := by decide +kernel
theorem dX1_placeByMiss_51 : decode cX1_placeByMiss 51 = .ok (.if_icmp .ge 6, 3) := by decide +kernel
theorem dX1_placeByMiss_54 : decode cX1_placeByMiss 54 = .ok (.iinc 5 1, 3) := by decide +kernel
theorem dX1_placeByMiss_57 : decode cX1_placeByMiss 57 = .ok (.iinc 6 1, 3) := by decide +kernel
theorem dX1_placeByMiss_60 : decode cX1_placeByMiss 60 = .ok (.goto (-45), 3) := by decide +kernel
theorem dX1_placeByMiss_63 : decode cX1_placeByMiss 63 = .ok (.iload 5, 2) := by decide +kernel
theorem dX1_placeByMiss_65 : decode cX1_placeByMiss 65 = .ok (.ireturn, 1) := by decide +kernel
theorem dX2_init_0 : decode cX2_init 0 = .ok (.aload_n 0, 1) := by decide +kernel
theorem dX2_init_1 : decode cX2_init 1 = .ok (.invokespecial 3, 3) := by decide +kernel
theorem dX2_init_4 : decode cX2_init 4 = .ok (.aload_n 0, 1) := by decide +kernel
theorem dX2_init_5 : decode cX2_init 5 = .ok (.bipush 56, 2) := by decide +kernel
theorem dX2_init_7 : decode cX2_init 7 = .ok (.newarray .int, 2) := by decide +kernel
theorem dX2_init_9 : decode cX2_init 9 = .ok (.putfield 11, 3) := by decide +kernel
theorem dX2_init_12 : decode cX2_init 12 = .ok (.aload_n 0, 1) := by decide +kernel
theorem dX2_init_13 : decode cX2_init 13 = .ok (.iconst 4, 1) := by decide +kernel
theorem dX2_init_14 : decode cX2_init 14 = .ok (.newarray .int, 2) := by decide +kernel
theorem dX2_init_16 : decode cX2_init 16 = .ok (.putfield 15, 3) := by decide +kernel
theorem dX2_init_19 : decode cX2_init 19 = .ok (.return_, 1) := by decide +kernel
theorem dX2_clear_0 : decode cX2_clear 0 = .ok (.aload_n 0, 1) := by decide +kernel
theorem dX2_clear_1 : decode cX2_clear 1 = .ok (.getfield 15, 3) := by decide +kernel
theorem dX2_clear_4 : decode cX2_clear 4 = .ok (.iconst 0, 1) := by decide +kernel
theorem dX2_clear_5 : decode cX2_clear 5 = .ok (.invokestatic 18, 3) := by decide +kernel
theorem dX2_clear_8 : decode cX2_clear 8 = .ok (.return_, 1) := by decide +kernel
theorem dX2_count_0 : decode cX2_count 0 = .ok (.iload_n 1, 1) := by decide +kernel
theorem dX2_count_1 : decode cX2_count 1 = .ok (.ifCond .lt 17, 3) := by decide +kernel
theorem dX2_count_4 : decode cX2_count 4 = .ok (.iload_n 1, 1) := by decide +kernel
theorem dX2_count_5 : decode cX2_count 5 = .ok (.iconst 4, 1) := by decide +kernel
theorem dX2_count_6 : decode cX2_count 6 = .ok (.if_icmp .ge 12, 3) := by decide +kernel
theorem dX2_count_9 : decode cX2_count 9 = .ok (.aload_n 0, 1) := by decide +kernel
theorem dX2_count_10 : decode cX2_count 10 = .ok (.getfield 15, 3) := by decide +kernel
theorem dX2_count_13 : decode cX2_count 13 = .ok (.iload_n 1, 1) := by decide +kernel
theorem dX2_count_14 : decode cX2_count 14 = .ok (.iaload, 1) := by decide +kernel
theorem dX2_count_15 : decode cX2_count 15 = .ok (.goto 4, 3) := by decide +kernel
theorem dX2_count_18 : decode cX2_count 18 = .ok (.iconst 0, 1) := by decide +kernel
theorem dX2_count_19 : decode cX2_count 19 = .ok (.ireturn, 1) := by decide +kernel
theorem dX2_has_0 : decode cX2_has 0 = .ok (.iload_n 1, 1) := by decide +kernel
theorem dX2_has_1 : decode cX2_has 1 = .ok (.ifCond .lt 26, 3) := by decide +kernel
theorem dX2_has_4 : decode cX2_has 4 = .ok (.iload_n 1, 1) := by decide +kernel
theorem dX2_has_5 : decode cX2_has 5 = .ok (.iconst 4, 1) := by decide +kernel
theorem dX2_has_6 : decode cX2_has 6 = .ok (.if_icmp .ge 21, 3) := by decide +kernel
theorem dX2_has_9 : decode cX2_has 9 = .ok (.iload_n 2, 1) := by decide +kernel
theorem dX2_has_10 : decode cX2_has 10 = .ok (.ifCond .lt 17, 3) := by decide +kernel
theorem dX2_has_13 : decode cX2_has 13 = .ok (.iload_n 2, 1) := by decide +kernel
theorem dX2_has_14 : decode cX2_has 14 = .ok (.aload_n 0, 1) := by decide +kernel
theorem dX2_has_15 : decode cX2_has 15 = .ok (.getfield 15, 3) := by decide +kernel
theorem dX2_has_18 : decode cX2_has 18 = .ok (.iload_n 1, 1) := by decide +kernel
theorem dX2_has_19 : decode cX2_has 19 = .ok (.iaload, 1) := by decide +kernel
theorem dX2_has_20 : decode cX2_has 20 = .ok (.if_icmp .ge 7, 3) := by decide +kernel
theorem dX2_has_23 : decode cX2_has 23 = .ok (.iconst 1, 1) := by decide +kernel
theorem dX2_has_24 : decode cX2_has 24 = .ok (.goto 4, 3) := by decide +kernel
theorem dX2_has_27 : decode cX2_has 27 = .ok (.iconst 0, 1) := by decide +kernel
theorem dX2_has_28 : decode cX2_has 28 = .ok (.ireturn, 1) := by decide +kernel
theorem dX2_isFull_0 : decode cX2_isFull 0 = .ok (.iload_n 1, 1) := by decide +kernel
theorem dX2_isFull_1 : decode cX2_isFull 1 = .ok (.ifCond .lt 22, 3) := by decide +kernel
theorem dX2_isFull_4 : decode cX2_isFull 4 = .ok (.iload_n 1, 1) := by decide +kernel
theorem dX2_isFull_5 : decode cX2_isFull 5 = .ok (.iconst 4, 1) := by decide +kernel
theorem dX2_isFull_6 : decode cX2_isFull 6 = .ok (.if_icmp .ge 17, 3) := by decide +kernel
theorem dX2_isFull_9 : decode cX2_isFull 9 = .ok (.aload_n 0, 1) := by decide +kernel
theorem dX2_isFull_10 : decode cX2_isFull 10 = .ok (.getfield 15, 3) := by decide +kernel
theorem dX2_isFull_13 : decode cX2_isFull 13 = .ok (.iload_n 1, 1) := by decide +kernel
theorem dX2_isFull_14 : decode cX2_isFull 14 = .ok (.iaload, 1) := by decide +kernel
theorem dX2_isFull_15 : decode cX2_isFull 15 = .ok (.getstatic 24, 3) := by decide +kernel
theorem dX2_isFull_18 : decode cX2_isFull 18 = .ok (.iload_n 1, 1) := by decide +kernel
theorem dX2_isFull_19 : decode cX2_isFull 19 = .ok (.iaload, 1) := by decide +kernel
theorem dX2_isFull_20 : decode cX2_isFull 20 = .ok (.if_icmp .lt 7, 3) := by decide +kernel
theorem dX2_isFull_23 : decode cX2_isFull 23 = .ok (.iconst 1, 1) := by decide +kernel
theorem dX2_isFull_24 : decode cX2_isFull 24 = .ok (.goto 4, 3) := by decide +kernel
theorem dX2_isFull_27 : decode cX2_isFull 27 = .ok (.iconst 0, 1) := by decide +kernel
theorem dX2_isFull_28 : decode cX2_isFull 28 = .ok (.ireturn, 1) := by decide +kernel
theorem dX2_told_0 : decode cX2_told 0 = .ok (.aload_n 0, 1) := by decide +kernel
theorem dX2_told_1 : decode cX2_told 1 = .ok (.iload_n 1, 1) := by decide +kernel
theorem dX2_told_2 : decode cX2_told 2 = .ok (.iload_n 2, 1) := by decide +kernel
theorem dX2_told_3 : decode cX2_told 3 = .ok (.invokevirtual 27, 3) := by decide +kernel
theorem dX2_told_6 : decode cX2_told 6 = .ok (.ifCond .eq 39, 3) := by decide +kernel
theorem dX2_told_9 : decode cX2_told 9 = .ok (.iload_n 3, 1) := by decide +kernel
theorem dX2_told_10 : decode cX2_told 10 = .ok (.ifCond .lt 35, 3) := by decide +kernel
theorem dX2_told_13 : decode cX2_told 13 = .ok (.iload_n 3, 1) := by decide +kernel
theorem dX2_told_14 : decode cX2_told 14 = .ok (.getstatic 31, 3) := by decide +kernel
theorem dX2_told_17 : decode cX2_told 17 = .ok (.iload_n 1, 1) := by decide +kernel
theorem dX2_told_18 : decode cX2_told 18 = .ok (.iaload, 1) := by decide +kernel
theorem dX2_told_19 : decode cX2_told 19 = .ok (.if_icmp .ge 26, 3) := by decide +kernel
theorem dX2_told_22 : decode cX2_told 22 = .ok (.aload_n 0, 1) := by decide +kernel
theorem dX2_told_23 : decode cX2_told 23 = .ok (.getfield 11, 3) := by decide +kernel
theorem dX2_told_26 : decode cX2_told 26 = .ok (.getstatic 34, 3) := by decide +kernel
theorem dX2_told_29 : decode cX2_told 29 = .ok (.iload_n 1, 1) := by decide +kernel
theorem dX2_told_30 : decode cX2_told 30 = .ok (.iaload, 1) := by decide +kernel
theorem dX2_told_31 : decode cX2_told 31 = .ok (.iload_n 2, 1) := by decide +kernel
theorem dX2_told_32 : decode cX2_told 32 = .ok (.getstatic 31, 3) := by decide +kernel
theorem dX2_told_35 : decode cX2_told 35 = .ok (.iload_n 1, 1) := by decide +kernel
theorem dX2_told_36 : decode cX2_told 36 = .ok (.iaload, 1) := by decide +kernel
theorem dX2_told_37 : decode cX2_told 37 = .ok (.imul, 1) := by decide +kernel
theorem dX2_told_38 : decode cX2_told 38 = .ok (.iadd, 1) := by decide +kernel
theorem dX2_told_39 : decode cX2_told 39 = .ok (.iload_n 3, 1) := by decide +kernel
theorem dX2_told_40 : decode cX2_told 40 = .ok (.iadd, 1) := by decide +kernel
theorem dX2_told_41 : decode cX2_told 41 = .ok (.iaload, 1) := by decide +kernel
theorem dX2_told_42 : decode cX2_told 42 = .ok (.goto 4, 3) := by decide +kernel
theorem dX2_told_45 : decode cX2_told 45 = .ok (.iconst 0, 1) := by decide +kernel
theorem dX2_told_46 : decode cX2_told 46 = .ok (.ireturn, 1) := by decide +kernel
theorem dX2_add_0 : decode cX2_add 0 = .ok (.aload_n 0, 1) := by decide +kernel
theorem dX2_add_1 : decode cX2_add 1 = .ok (.iload_n 1, 1) := by decide +kernel
theorem dX2_add_2 : decode cX2_add 2 = .ok (.invokevirtual 37, 3) := by decide +kernel
theorem dX2_add_5 : decode cX2_add 5 = .ok (.ifCond .ne 13, 3) := by decide +kernel
theorem dX2_add_8 : decode cX2_add 8 = .ok (.aload_n 2, 1) := by decide +kernel
theorem dX2_add_9 : decode cX2_add 9 = .ok (.arraylength, 1) := by decide +kernel
theorem dX2_add_10 : decode cX2_add 10 = .ok (.getstatic 31, 3) := by decide +kernel
theorem dX2_add_13 : decode cX2_add 13 = .ok (.iload_n 1, 1) := by decide +kernel
theorem dX2_add_14 : decode cX2_add 14 = .ok (.iaload, 1) := by decide +kernel
theorem dX2_add_15 : decode cX2_add 15 = .ok (.if_icmp .ge 4, 3) := by decide +kernel
theorem dX2_add_18 : decode cX2_add 18 = .ok (.return_, 1) := by decide +kernel
theorem dX2_add_19 : decode cX2_add 19 = .ok (.getstatic 34, 3) := by decide +kernel
theorem dX2_add_22 : decode cX2_add 22 = .ok (.iload_n 1, 1) := by decide +kernel
theorem dX2_add_23 : decode cX2_add 23 = .ok (.iaload, 1) := by decide +kernel
theorem dX2_add_24 : decode cX2_add 24 = .ok (.aload_n 0, 1) := by decide +kernel
theorem dX2_add_25 : decode cX2_add 25 = .ok (.getfield 15, 3) := by decide +kernel
theorem dX2_add_28 : decode cX2_add 28 = .ok (.iload_n 1, 1) := by decide +kernel
theorem dX2_add_29 : decode cX2_add 29 = .ok (.iaload, 1) := by decide +kernel
theorem dX2_add_30 : decode cX2_add 30 = .ok (.getstatic 31, 3) := by decide +kernel
theorem dX2_add_33 : decode cX2_add 33 = .ok (.iload_n 1, 1) := by decide +kernel
theorem dX2_add_34 : decode cX2_add 34 = .ok (.iaload, 1) := by decide +kernel
theorem dX2_add_35 : decode cX2_add 35 = .ok (.imul, 1) := by decide +kernel
theorem dX2_add_36 : decode cX2_add 36 = .ok (.iadd, 1) := by decide +kernel
theorem dX2_add_37 : decode cX2_add 37 = .ok (.istore_n 3, 1) := by decide +kernel
theorem dX2_add_38 : decode cX2_add 38 = .ok (.aload_n 2, 1) := by decide +kernel
theorem dX2_add_39 : decode cX2_add 39 = .ok (.iconst 0, 1) := by decide +kernel
theorem dX2_add_40 : decode cX2_add 40 = .ok (.aload_n 0, 1) := by decide +kernel
theorem dX2_add_41 : decode cX2_add 41 = .ok (.getfield 11, 3) := by decide +kernel
theorem dX2_add_44 : decode cX2_add 44 = .ok (.iload_n 3, 1) := by decide +kernel
theorem dX2_add_45 : decode cX2_add 45 = .ok (.getstatic 31, 3) := by decide +kernel
theorem dX2_add_48 : decode cX2_add 48 = .ok (.iload_n 1, 1) := by decide +kernel
theorem dX2_add_49 : decode cX2_add 49 = .ok (.iaload, 1) := by decide +kernel
theorem dX2_add_50 : decode cX2_add 50 = .ok (.invokestatic 41, 3) := by decide +kernel
theorem dX2_add_53 : decode cX2_add 53 = .ok (.aload_n 0, 1) := by decide +kernel
theorem dX2_add_54 : decode cX2_add 54 = .ok (.getfield 15, 3) := by decide +kernel
theorem dX2_add_57 : decode cX2_add 57 = .ok (.iload_n 1, 1) := by decide +kernel
theorem dX2_add_58 : decode cX2_add 58 = .ok (.dup2, 1) := by decide +kernel
theorem dX2_add_59 : decode cX2_add 59 = .ok (.iaload, 1) := by decide +kernel
theorem dX2_add_60 : decode cX2_add 60 = .ok (.iconst 1, 1) := by decide +kernel
theorem dX2_add_61 : decode cX2_add 61 = .ok (.iadd, 1) := by decide +kernel
theorem dX2_add_62 : decode cX2_add 62 = .ok (.iastore, 1) := by decide +kernel
theorem dX2_add_63 : decode cX2_add 63 = .ok (.return_, 1) := by decide +kernel
theorem dX2_changeBar_0 : decode cX2_changeBar 0 = .ok (.aload_n 0, 1) := by decide +kernel
theorem dX2_changeBar_1 : decode cX2_changeBar 1 = .ok (.iconst 0, 1) := by decide +kernel
theorem dX2_changeBar_2 : decode cX2_changeBar 2 = .ok (.iload_n 1, 1) := by decide +kernel
theorem dX2_changeBar_3 : decode cX2_changeBar 3 = .ok (.invokevirtual 27, 3) := by decide +kernel
theorem dX2_changeBar_6 : decode cX2_changeBar 6 = .ok (.ifCond .eq 37, 3) := by decide +kernel
theorem dX2_changeBar_9 : decode cX2_changeBar 9 = .ok (.iload_n 2, 1) := by decide +kernel
theorem dX2_changeBar_10 : decode cX2_changeBar 10 = .ok (.ifCond .lt 33, 3) := by decide +kernel
theorem dX2_changeBar_13 : decode cX2_changeBar 13 = .ok (.iload_n 2, 1) := by decide +kernel
theorem dX2_changeBar_14 : decode cX2_changeBar 14 = .ok (.getstatic 31, 3) := by decide +kernel
theorem dX2_changeBar_17 : decode cX2_changeBar 17 = .ok (.iconst 0, 1) := by decide +kernel
theorem dX2_changeBar_18 : decode cX2_changeBar 18 = .ok (.iaload, 1) := by decide +kernel
theorem dX2_changeBar_19 : decode cX2_changeBar 19 = .ok (.if_icmp .ge 24, 3) := by decide +kernel
theorem dX2_changeBar_22 : decode cX2_changeBar 22 = .ok (.aload_n 0, 1) := by decide +kernel
theorem dX2_changeBar_23 : decode cX2_changeBar 23 = .ok (.getfield 11, 3) := by decide +kernel
theorem dX2_changeBar_26 : decode cX2_changeBar 26 = .ok (.getstatic 34, 3) := by decide +kernel
theorem dX2_changeBar_29 : decode cX2_changeBar 29 = .ok (.iconst 0, 1) := by decide +kernel
theorem dX2_changeBar_30 : decode cX2_changeBar 30 = .ok (.iaload, 1) := by decide +kernel
theorem dX2_changeBar_31 : decode cX2_changeBar 31 = .ok (.iload_n 1, 1) := by decide +kernel
theorem dX2_changeBar_32 : decode cX2_changeBar 32 = .ok (.getstatic 31, 3) := by decide +kernel
theorem dX2_changeBar_35 : decode cX2_changeBar 35 = .ok (.iconst 0, 1) := by decide +kernel
theorem dX2_changeBar_36 : decode cX2_changeBar 36 = .ok (.iaload, 1) := by decide +kernel
theorem dX2_changeBar_37 : decode cX2_changeBar 37 = .ok (.imul, 1) := by decide +kernel
theorem dX2_changeBar_38 : decode cX2_changeBar 38 = .ok (.iadd, 1) := by decide +kernel
theorem dX2_changeBar_39 : decode cX2_changeBar 39 = .ok (.iload_n 2, 1) := by decide +kernel
theorem dX2_changeBar_40 : decode cX2_changeBar 40 = .ok (.iadd, 1) := by decide +kernel
theorem dX2_changeBar_41 : decode cX2_changeBar 41 = .ok (.iload_n 3, 1) := by decide +kernel
theorem dX2_changeBar_42 : decode cX2_changeBar 42 = .ok (.iastore, 1) := by decide +kernel
theorem dX2_changeBar_43 : decode cX2_changeBar 43 = .ok (.return_, 1) := by decide +kernel
theorem dX3_init_0 : decode cX3_init 0 = .ok (.aload_n 0, 1) := by decide +kernel
theorem dX3_init_1 : decode cX3_init 1 = .ok (.invokespecial 3, 3) := by decide +kernel
theorem dX3_init_4 : decode cX3_init 4 = .ok (.aload_n 0, 1) := by decide +kernel
theorem dX3_init_5 : decode cX3_init 5 = .ok (.iconst 1, 1) := by decide +kernel
theorem dX3_init_6 : decode cX3_init 6 = .ok (.putfield 9, 3) := by decide +kernel
theorem dX3_init_9 : decode cX3_init 9 = .ok (.aload_n 0, 1) := by decide +kernel
theorem dX3_init_10 : decode cX3_init 10 = .ok (.iconst 1, 1) := by decide +kernel
theorem dX3_init_11 : decode cX3_init 11 = .ok (.putfield 15, 3) := by decide +kernel
theorem dX3_init_14 : decode cX3_init 14 = .ok (.aload_n 0, 1) := by decide +kernel
theorem dX3_init_15 : decode cX3_init 15 = .ok (.iconst 1, 1) := by decide +kernel
theorem dX3_init_16 : decode cX3_init 16 = .ok (.putfield 18, 3) := by decide +kernel
theorem dX3_init_19 : decode cX3_init 19 = .ok (.aload_n 0, 1) := by decide +kernel
theorem dX3_init_20 : decode cX3_init 20 = .ok (.iconst 1, 1) := by decide +kernel
theorem dX3_init_21 : decode cX3_init 21 = .ok (.putfield 21, 3) := by decide +kernel
theorem dX3_init_24 : decode cX3_init 24 = .ok (.return_, 1) := by decide +kernel
theorem dX3_take_0 : decode cX3_take 0 = .ok (.aload_n 0, 1) := by decide +kernel
theorem dX3_take_1 : decode cX3_take 1 = .ok (.aload_n 1, 1) := by decide +kernel
theorem dX3_take_2 : decode cX3_take 2 = .ok (.iconst 0, 1) := by decide +kernel
theorem dX3_take_3 : decode cX3_take 3 = .ok (.iload_n 2, 1) := by decide +kernel
theorem dX3_take_4 : decode cX3_take 4 = .ok (.iconst 0, 1) := by decide +kernel
theorem dX3_take_5 : decode cX3_take 5 = .ok (.invokevirtual 24, 3) := by decide +kernel
theorem dX3_take_8 : decode cX3_take 8 = .ok (.putfield 9, 3) := by decide +kernel
theorem dX3_take_11 : decode cX3_take 11 = .ok (.aload_n 0, 1) := by decide +kernel
theorem dX3_take_12 : decode cX3_take 12 = .ok (.aload_n 1, 1) := by decide +kernel
theorem dX3_take_13 : decode cX3_take 13 = .ok (.iconst 0, 1) := by decide +kernel
theorem dX3_take_14 : decode cX3_take 14 = .ok (.iload_n 2, 1) := by decide +kernel
theorem dX3_take_15 : decode cX3_take 15 = .ok (.iconst 1, 1) := by decide +kernel
theorem dX3_take_16 : decode cX3_take 16 = .ok (.invokevirtual 24, 3) := by decide +kernel
theorem dX3_take_19 : decode cX3_take 19 = .ok (.putfield 15, 3) := by decide +kernel
theorem dX3_take_22 : decode cX3_take 22 = .ok (.aload_n 0, 1) := by decide +kernel
theorem dX3_take_23 : decode cX3_take 23 = .ok (.aload_n 1, 1) := by decide +kernel
theorem dX3_take_24 : decode cX3_take 24 = .ok (.iconst 0, 1) := by decide +kernel
theorem dX3_take_25 : decode cX3_take 25 = .ok (.iload_n 2, 1) := by decide +kernel
theorem dX3_take_26 : decode cX3_take 26 = .ok (.iconst 2, 1) := by decide +kernel
theorem dX3_take_27 : decode cX3_take 27 = .ok (.invokevirtual 24, 3) := by decide +kernel
theorem dX3_take_30 : decode cX3_take 30 = .ok (.putfield 18, 3) := by decide +kernel
theorem dX3_take_33 : decode cX3_take 33 = .ok (.aload_n 0, 1) := by decide +kernel
theorem dX3_take_34 : decode cX3_take 34 = .ok (.aload_n 1, 1) := by decide +kernel
theorem dX3_take_35 : decode cX3_take 35 = .ok (.iconst 0, 1) := by decide +kernel
theorem dX3_take_36 : decode cX3_take 36 = .ok (.iload_n 2, 1) := by decide +kernel
theorem dX3_take_37 : decode cX3_take 37 = .ok (.iconst 3, 1) := by decide +kernel
theorem dX3_take_38 : decode cX3_take 38 = .ok (.invokevirtual 24, 3) := by decide +kernel
theorem dX3_take_41 : decode cX3_take 41 = .ok (.putfield 21, 3) := by decide +kernel
theorem dX3_take_44 : decode cX3_take 44 = .ok (.return_, 1) := by decide +kernel
theorem dX3_together_0 : decode cX3_together 0 = .ok (.aload_n 0, 1) := by decide +kernel
theorem dX3_together_1 : decode cX3_together 1 = .ok (.getfield 9, 3) := by decide +kernel
theorem dX3_together_4 : decode cX3_together 4 = .ok (.aload_n 0, 1) := by decide +kernel
theorem dX3_together_5 : decode cX3_together 5 = .ok (.getfield 15, 3) := by decide +kernel
theorem dX3_together_8 : decode cX3_together 8 = .ok (.iadd, 1) := by decide +kernel
theorem dX3_together_9 : decode cX3_together 9 = .ok (.aload_n 0, 1) := by decide +kernel
theorem dX3_together_10 : decode cX3_together 10 = .ok (.getfield 18, 3) := by decide +kernel
theorem dX3_together_13 : decode cX3_together 13 = .ok (.iadd, 1) := by decide +kernel
theorem dX3_together_14 : decode cX3_together 14 = .ok (.aload_n 0, 1) := by decide +kernel
theorem dX3_together_15 : decode cX3_together 15 = .ok (.getfield 21, 3) := by decide +kernel
theorem dX3_together_18 : decode cX3_together 18 = .ok (.iadd, 1) := by decide +kernel
theorem dX3_together_19 : decode cX3_together 19 = .ok (.ireturn, 1) := by decide +kernel
theorem dX3_greatest_0 : decode cX3_greatest 0 = .ok (.aload_n 0, 1) := by decide +kernel
theorem dX3_greatest_1 : decode cX3_greatest 1 = .ok (.getfield 9, 3) := by decide +kernel
theorem dX3_greatest_4 : decode cX3_greatest 4 = .ok (.aload_n 0, 1) := by decide +kernel
theorem dX3_greatest_5 : decode cX3_greatest 5 = .ok (.getfield 15, 3) := by decide +kernel
theorem dX3_greatest_8 : decode cX3_greatest 8 = .ok (.invokestatic 30, 3) := by decide +kernel
theorem dX3_greatest_11 : decode cX3_greatest 11 = .ok (.aload_n 0, 1) := by decide +kernel
theorem dX3_greatest_12 : decode cX3_greatest 12 = .ok (.getfield 18, 3) := by decide +kernel
theorem dX3_greatest_15 : decode cX3_greatest 15 = .ok (.aload_n 0, 1) := by decide +kernel
theorem dX3_greatest_16 : decode cX3_greatest 16 = .ok (.getfield 21, 3) := by decide +kernel
theorem dX3_greatest_19 : decode cX3_greatest 19 = .ok (.invokestatic 30, 3) := by decide +kernel
theorem dX3_greatest_22 : decode cX3_greatest 22 = .ok (.invokestatic 30, 3) := by decide +kernel
theorem dX3_greatest_25 : decode cX3_greatest 25 = .ok (.ireturn, 1) := by decide +kernel
theorem dX3_smallest_0 : decode cX3_smallest 0 = .ok (.aload_n 0, 1) := by decide +kernel
theorem dX3_smallest_1 : decode cX3_smallest 1 = .ok (.getfield 9, 3) := by decide +kernel
theorem dX3_smallest_4 : decode cX3_smallest 4 = .ok (.aload_n 0, 1) := by decide +kernel
theorem dX3_smallest_5 : decode cX3_smallest 5 = .ok (.getfield 15, 3) := by decide +kernel
theorem dX3_smallest_8 : decode cX3_smallest 8 = .ok (.invokestatic 36, 3) := by decide +kernel
theorem dX3_smallest_11 : decode cX3_smallest 11 = .ok (.aload_n 0, 1) := by decide +kernel
theorem dX3_smallest_12 : decode cX3_smallest 12 = .ok (.getfield 18, 3) := by decide +kernel
theorem dX3_smallest_15 : decode cX3_smallest 15 = .ok (.aload_n 0, 1) := by decide +kernel
theorem dX3_smallest_16 : decode cX3_smallest 16 = .ok (.getfield 21, 3) := by decide +kernel
theorem dX3_smallest_19 : decode cX3_smallest 19 = .ok (.invokestatic 36, 3) := by decide +kernel
theorem dX3_smallest_22 : decode cX3_smallest 22 = .ok (.invokestatic 36, 3) := by decide +kernel
theorem dX3_smallest_25 : decode cX3_smallest 25 = .ok (.ireturn, 1) := by decide +kernel
theorem dX3_middleLessOuter_0 : decode cX3_middleLessOuter 0 = .ok (.aload_n 0, 1) := by decide +kernel
theorem dX3_middleLessOuter_1 : decode cX3_middleLessOuter 1 = .ok (.invokevirtual 39, 3) := by decide +kernel
theorem dX3_middleLessOuter_4 : decode cX3_middleLessOuter 4 = .ok (.iconst 2, 1) := by decide +kernel
theorem dX3_middleLessOuter_5 : decode cX3_middleLessOuter 5 = .ok (.aload_n 0, 1) := by decide +kernel
theorem dX3_middleLessOuter_6 : decode cX3_middleLessOuter 6 = .ok (.invokevirtual 43, 3) := by decide +kernel
theorem dX3_middleLessOuter_9 : decode cX3_middleLessOuter 9 = .ok (.aload_n 0, 1) := by decide +kernel
theorem dX3_middleLessOuter_10 : decode cX3_middleLessOuter 10 = .ok (.invokevirtual 46, 3) := by decide +kernel
theorem dX3_middleLessOuter_13 : decode cX3_middleLessOuter 13 = .ok (.iadd, 1) := by decide +kernel
theorem dX3_middleLessOuter_14 : decode cX3_middleLessOuter 14 = .ok (.imul, 1) := by decide +kernel
theorem dX3_middleLessOuter_15 : decode cX3_middleLessOuter 15 = .ok (.isub, 1) := by decide +kernel
theorem dX3_middleLessOuter_16 : decode cX3_middleLessOuter 16 = .ok (.ireturn, 1) := by decide +kernel
theorem dX3_canBeBuilt_0 : decode cX3_canBeBuilt 0 = .ok (.iconst 2, 1) := by decide +kernel
theorem dX3_canBeBuilt_1 : decode cX3_canBeBuilt 1 = .ok (.aload_n 0, 1) := by decide +kernel
theorem dX3_canBeBuilt_2 : decode cX3_canBeBuilt 2 = .ok (.invokevirtual 43, 3) := by decide +kernel
theorem dX3_canBeBuilt_5 : decode cX3_canBeBuilt 5 = .ok (.imul, 1) := by decide +kernel
theorem dX3_canBeBuilt_6 : decode cX3_canBeBuilt 6 = .ok (.aload_n 0, 1) := by decide +kernel
theorem dX3_canBeBuilt_7 : decode cX3_canBeBuilt 7 = .ok (.invokevirtual 39, 3) := by decide +kernel
theorem dX3_canBeBuilt_10 : decode cX3_canBeBuilt 10 = .ok (.if_icmp .gt 7, 3) := by decide +kernel
theorem dX3_canBeBuilt_13 : decode cX3_canBeBuilt 13 = .ok (.iconst 1, 1) := by decide +kernel
theorem dX3_canBeBuilt_14 : decode cX3_canBeBuilt 14 = .ok (.goto 4, 3) := by decide +kernel
theorem dX3_canBeBuilt_17 : decode cX3_canBeBuilt 17 = .ok (.iconst 0, 1) := by decide +kernel
theorem dX3_canBeBuilt_18 : decode cX3_canBeBuilt 18 = .ok (.ireturn, 1) := by decide +kernel
theorem dX3_sortOf_0 : decode cX3_sortOf 0 = .ok (.aload_n 0, 1) := by decide +kernel
theorem dX3_sortOf_1 : decode cX3_sortOf 1 = .ok (.invokevirtual 49, 3) := by decide +kernel
theorem dX3_sortOf_4 : decode cX3_sortOf 4 = .ok (.ifCond .ne 5, 3) := by decide +kernel
theorem dX3_sortOf_7 : decode cX3_sortOf 7 = .ok (.iconst 5, 1) := by decide +kernel
theorem dX3_sortOf_8 : decode cX3_sortOf 8 = .ok (.ireturn, 1) := by decide +kernel
theorem dX3_sortOf_9 : decode cX3_sortOf 9 = .ok (.aload_n 0, 1) := by decide +kernel
theorem dX3_sortOf_10 : decode cX3_sortOf 10 = .ok (.invokevirtual 53, 3) := by decide +kernel
theorem dX3_sortOf_13 : decode cX3_sortOf 13 = .ok (.istore_n 1, 1) := by decide +kernel
theorem dX3_sortOf_14 : decode cX3_sortOf 14 = .ok (.iload_n 1, 1) := by decide +kernel
theorem dX3_sortOf_15 : decode cX3_sortOf 15 = .ok (.ifCond .gt 14, 3) := by decide +kernel
theorem dX3_sortOf_18 : decode cX3_sortOf 18 = .ok (.iload_n 1, 1) := by decide +kernel
theorem dX3_sortOf_19 : decode cX3_sortOf 19 = .ok (.ifCond .ne 7, 3) := by decide +kernel
theorem dX3_sortOf_22 : decode cX3_sortOf 22 = .ok (.iconst 4, 1) := by decide +kernel
theorem dX3_sortOf_23 : decode cX3_sortOf 23 = .ok (.goto 5, 3) := by decide +kernel
theorem dX3_sortOf_26 : decode cX3_sortOf 26 = .ok (.bipush 6, 2) := by decide +kernel
theorem dX3_sortOf_28 : decode cX3_sortOf 28 = .ok (.ireturn, 1) := by decide +kernel
theorem dX3_sortOf_29 : decode cX3_sortOf 29 = .ok (.aload_n 0, 1) := by decide +kernel
theorem dX3_sortOf_30 : decode cX3_sortOf 30 = .ok (.invokevirtual 46, 3) := by decide +kernel
theorem dX3_sortOf_33 : decode cX3_sortOf 33 = .ok (.istore_n 2, 1) := by decide +kernel
theorem dX3_sortOf_34 : decode cX3_sortOf 34 = .ok (.aload_n 0, 1) := by decide +kernel
theorem dX3_sortOf_35 : decode cX3_sortOf 35 = .ok (.getfield 15, 3) := by decide +kernel
theorem dX3_sortOf_38 : decode cX3_sortOf 38 = .ok (.iload_n 2, 1) := by decide +kernel
theorem dX3_sortOf_39 : decode cX3_sortOf 39 = .ok (.if_icmp .ne 5, 3) := by decide +kernel
theorem dX3_sortOf_42 : decode cX3_sortOf 42 = .ok (.iconst 0, 1) := by decide +kernel
theorem dX3_sortOf_43 : decode cX3_sortOf 43 = .ok (.ireturn, 1) := by decide +kernel
theorem dX3_sortOf_44 : decode cX3_sortOf 44 = .ok (.aload_n 0, 1) := by decide +kernel
theorem dX3_sortOf_45 : decode cX3_sortOf 45 = .ok (.getfield 9, 3) := by decide +kernel
theorem dX3_sortOf_48 : decode cX3_sortOf 48 = .ok (.iload_n 2, 1) := by decide +kernel
theorem dX3_sortOf_49 : decode cX3_sortOf 49 = .ok (.if_icmp .ne 5, 3) := by decide +kernel
theorem dX3_sortOf_52 : decode cX3_sortOf 52 = .ok (.iconst 1, 1) := by decide +kernel
theorem dX3_sortOf_53 : decode cX3_sortOf 53 = .ok (.ireturn, 1) := by decide +kernel
theorem dX3_sortOf_54 : decode cX3_sortOf 54 = .ok (.aload_n 0, 1) := by decide +kernel
theorem dX3_sortOf_55 : decode cX3_sortOf 55 = .ok (.getfield 18, 3) := by decide +kernel
theorem dX3_sortOf_58 : decode cX3_sortOf 58 = .ok (.iload_n 2, 1) := by decide +kernel
theorem dX3_sortOf_59 : decode cX3_sortOf 59 = .ok (.if_icmp .ne 7, 3) := by decide +kernel
theorem dX3_sortOf_62 : decode cX3_sortOf 62 = .ok (.iconst 2, 1) := by decide +kernel
theorem dX3_sortOf_63 : decode cX3_sortOf 63 = .ok (.goto 4, 3) := by decide +kernel
theorem dX3_sortOf_66 : decode cX3_sortOf 66 = .ok (.iconst 3, 1) := by decide +kernel
theorem dX3_sortOf_67 : decode cX3_sortOf 67 = .ok (.ireturn, 1) := by decide +kernel
theorem dX3_goesRound_0 : decode cX3_goesRound 0 = .ok (.iload_n 1, 1) := by decide +kernel
theorem dX3_goesRound_1 : decode cX3_goesRound 1 = .ok (.tableswitch 87 0 2 #[27, 47, 67], 27) := by decide +kernel
theorem dX3_goesRound_28 : decode cX3_goesRound 28 = .ok (.aload_n 0, 1) := by decide +kernel
theorem dX3_goesRound_29 : decode cX3_goesRound 29 = .ok (.getfield 15, 3) := by decide +kernel
theorem dX3_goesRound_32 : decode cX3_goesRound 32 = .ok (.aload_n 0, 1) := by decide +kernel
theorem dX3_goesRound_33 : decode cX3_goesRound 33 = .ok (.getfield 9, 3) := by decide +kernel
theorem dX3_goesRound_36 : decode cX3_goesRound 36 = .ok (.aload_n 0, 1) := by decide +kernel
theorem dX3_goesRound_37 : decode cX3_goesRound 37 = .ok (.getfield 18, 3) := by decide +kernel
theorem dX3_goesRound_40 : decode cX3_goesRound 40 = .ok (.aload_n 0, 1) := by decide +kernel
theorem dX3_goesRound_41 : decode cX3_goesRound 41 = .ok (.getfield 21, 3) := by decide +kernel
theorem dX3_goesRound_44 : decode cX3_goesRound 44 = .ok (.invokestatic 56, 3) := by decide +kernel
theorem dX3_goesRound_47 : decode cX3_goesRound 47 = .ok (.ireturn, 1) := by decide +kernel
theorem dX3_goesRound_48 : decode cX3_goesRound 48 = .ok (.aload_n 0, 1) := by decide +kernel
theorem dX3_goesRound_49 : decode cX3_goesRound 49 = .ok (.getfield 18, 3) := by decide +kernel
theorem dX3_goesRound_52 : decode cX3_goesRound 52 = .ok (.aload_n 0, 1) := by decide +kernel
theorem dX3_goesRound_53 : decode cX3_goesRound 53 = .ok (.getfield 15, 3) := by decide +kernel
theorem dX3_goesRound_56 : decode cX3_goesRound 56 = .ok (.aload_n 0, 1) := by decide +kernel
theorem dX3_goesRound_57 : decode cX3_goesRound 57 = .ok (.getfield 9, 3) := by decide +kernel
theorem dX3_goesRound_60 : decode cX3_goesRound 60 = .ok (.aload_n 0, 1) := by decide +kernel
theorem dX3_goesRound_61 : decode cX3_goesRound 61 = .ok (.getfield 21, 3) := by decide +kernel
theorem dX3_goesRound_64 : decode cX3_goesRound 64 = .ok (.invokestatic 56, 3) := by decide +kernel
theorem dX3_goesRound_67 : decode cX3_goesRound 67 = .ok (.ireturn, 1) := by decide +kernel
theorem dX3_goesRound_68 : decode cX3_goesRound 68 = .ok (.aload_n 0, 1) := by decide +kernel
theorem dX3_goesRound_69 : decode cX3_goesRound 69 = .ok (.getfield 21, 3) := by decide +kernel
theorem dX3_goesRound_72 : decode cX3_goesRound 72 = .ok (.aload_n 0, 1) := by decide +kernel
theorem dX3_goesRound_73 : decode cX3_goesRound 73 = .ok (.getfield 18, 3) := by decide +kernel
theorem dX3_goesRound_76 : decode cX3_goesRound 76 = .ok (.aload_n 0, 1) := by decide +kernel
theorem dX3_goesRound_77 : decode cX3_goesRound 77 = .ok (.getfield 9, 3) := by decide +kernel
theorem dX3_goesRound_80 : decode cX3_goesRound 80 = .ok (.aload_n 0, 1) := by decide +kernel
theorem dX3_goesRound_81 : decode cX3_goesRound 81 = .ok (.getfield 15, 3) := by decide +kernel
theorem dX3_goesRound_84 : decode cX3_goesRound 84 = .ok (.invokestatic 56, 3) := by decide +kernel
theorem dX3_goesRound_87 : decode cX3_goesRound 87 = .ok (.ireturn, 1) := by decide +kernel
theorem dX3_goesRound_88 : decode cX3_goesRound 88 = .ok (.aload_n 0, 1) := by decide +kernel
theorem dX3_goesRound_89 : decode cX3_goesRound 89 = .ok (.getfield 9, 3) := by decide +kernel
theorem dX3_goesRound_92 : decode cX3_goesRound 92 = .ok (.aload_n 0, 1) := by decide +kernel
theorem dX3_goesRound_93 : decode cX3_goesRound 93 = .ok (.getfield 21, 3) := by decide +kernel
theorem dX3_goesRound_96 : decode cX3_goesRound 96 = .ok (.aload_n 0, 1) := by decide +kernel
theorem dX3_goesRound_97 : decode cX3_goesRound 97 = .ok (.getfield 15, 3) := by decide +kernel
theorem dX3_goesRound_100 : decode cX3_goesRound 100 = .ok (.aload_n 0, 1) := by decide +kernel
theorem dX3_goesRound_101 : decode cX3_goesRound 101 = .ok (.getfield 18, 3) := by decide +kernel
theorem dX3_goesRound_104 : decode cX3_goesRound 104 = .ok (.invokestatic 56, 3) := by decide +kernel
theorem dX3_goesRound_107 : decode cX3_goesRound 107 = .ok (.ireturn, 1) := by decide +kernel
theorem dX3_turnsFully_0 : decode cX3_turnsFully 0 = .ok (.iload_n 2, 1) := by decide +kernel
theorem dX3_turnsFully_1 : decode cX3_turnsFully 1 = .ok (.iload_n 3, 1) := by decide +kernel
theorem dX3_turnsFully_2 : decode cX3_turnsFully 2 = .ok (.isub, 1) := by decide +kernel
theorem dX3_turnsFully_3 : decode cX3_turnsFully 3 = .ok (.invokestatic 60, 3) := by decide +kernel
theorem dX3_turnsFully_6 : decode cX3_turnsFully 6 = .ok (.iload_n 0, 1) := by decide +kernel
theorem dX3_turnsFully_7 : decode cX3_turnsFully 7 = .ok (.iload_n 1, 1) := by decide +kernel
theorem dX3_turnsFully_8 : decode cX3_turnsFully 8 = .ok (.isub, 1) := by decide +kernel
theorem dX3_turnsFully_9 : decode cX3_turnsFully 9 = .ok (.invokestatic 60, 3) := by decide +kernel
theorem dX3_turnsFully_12 : decode cX3_turnsFully 12 = .ok (.if_icmp .gt 16, 3) := by decide +kernel
theorem dX3_turnsFully_15 : decode cX3_turnsFully 15 = .ok (.iload_n 0, 1) := by decide +kernel
theorem dX3_turnsFully_16 : decode cX3_turnsFully 16 = .ok (.iload_n 1, 1) := by decide +kernel
theorem dX3_turnsFully_17 : decode cX3_turnsFully 17 = .ok (.iadd, 1) := by decide +kernel
theorem dX3_turnsFully_18 : decode cX3_turnsFully 18 = .ok (.iload_n 2, 1) := by decide +kernel
theorem dX3_turnsFully_19 : decode cX3_turnsFully 19 = .ok (.iload_n 3, 1) := by decide +kernel
theorem dX3_turnsFully_20 : decode cX3_turnsFully 20 = .ok (.iadd, 1) := by decide +kernel
theorem dX3_turnsFully_21 : decode cX3_turnsFully 21 = .ok (.if_icmp .gt 7, 3) := by decide +kernel
theorem dX3_turnsFully_24 : decode cX3_turnsFully 24 = .ok (.iconst 1, 1) := by decide +kernel
theorem dX3_turnsFully_25 : decode cX3_turnsFully 25 = .ok (.goto 4, 3) := by decide +kernel
theorem dX3_turnsFully_28 : decode cX3_turnsFully 28 = .ok (.iconst 0, 1) := by decide +kernel
theorem dX3_turnsFully_29 : decode cX3_turnsFully 29 = .ok (.ireturn, 1) := by decide +kernel
theorem dX3_cosineUnit_0 : decode cX3_cosineUnit 0 = .ok (.iconst 2, 1) := by decide +kernel
theorem dX3_cosineUnit_1 : decode cX3_cosineUnit 1 = .ok (.aload_n 0, 1) := by decide +kernel
theorem dX3_cosineUnit_2 : decode cX3_cosineUnit 2 = .ok (.getfield 9, 3) := by decide +kernel
theorem dX3_cosineUnit_5 : decode cX3_cosineUnit 5 = .ok (.imul, 1) := by decide +kernel
theorem dX3_cosineUnit_6 : decode cX3_cosineUnit 6 = .ok (.aload_n 0, 1) := by decide +kernel
theorem dX3_cosineUnit_7 : decode cX3_cosineUnit 7 = .ok (.getfield 15, 3) := by decide +kernel
theorem dX3_cosineUnit_10 : decode cX3_cosineUnit 10 = .ok (.imul, 1) := by decide +kernel
theorem dX3_cosineUnit_11 : decode cX3_cosineUnit 11 = .ok (.ireturn, 1) := by decide +kernel
theorem dX3_stretchedCosine_0 : decode cX3_stretchedCosine 0 = .ok (.aload_n 0, 1) := by decide +kernel
theorem dX3_stretchedCosine_1 : decode cX3_stretchedCosine 1 = .ok (.getfield 9, 3) := by decide +kernel
theorem dX3_stretchedCosine_4 : decode cX3_stretchedCosine 4 = .ok (.aload_n 0, 1) := by decide +kernel
theorem dX3_stretchedCosine_5 : decode cX3_stretchedCosine 5 = .ok (.getfield 9, 3) := by decide +kernel
theorem dX3_stretchedCosine_8 : decode cX3_stretchedCosine 8 = .ok (.imul, 1) := by decide +kernel
theorem dX3_stretchedCosine_9 : decode cX3_stretchedCosine 9 = .ok (.aload_n 0, 1) := by decide +kernel
theorem dX3_stretchedCosine_10 : decode cX3_stretchedCosine 10 = .ok (.getfield 15, 3) := by decide +kernel
theorem dX3_stretchedCosine_13 : decode cX3_stretchedCosine 13 = .ok (.aload_n 0, 1) := by decide +kernel
theorem dX3_stretchedCosine_14 : decode cX3_stretchedCosine 14 = .ok (.getfield 15, 3) := by decide +kernel
theorem dX3_stretchedCosine_17 : decode cX3_stretchedCosine 17 = .ok (.imul, 1) := by decide +kernel
theorem dX3_stretchedCosine_18 : decode cX3_stretchedCosine 18 = .ok (.iadd, 1) := by decide +kernel
theorem dX3_stretchedCosine_19 : decode cX3_stretchedCosine 19 = .ok (.aload_n 0, 1) := by decide +kernel
theorem dX3_stretchedCosine_20 : decode cX3_stretchedCosine 20 = .ok (.getfield 18, 3) := by decide +kernel
theorem dX3_stretchedCosine_23 : decode cX3_stretchedCosine 23 = .ok (.aload_n 0, 1) := by decide +kernel
theorem dX3_stretchedCosine_24 : decode cX3_stretchedCosine 24 = .ok (.getfield 21, 3) := by decide +kernel
theorem dX3_stretchedCosine_27 : decode cX3_stretchedCosine 27 = .ok (.iadd, 1) := by decide +kernel
theorem dX3_stretchedCosine_28 : decode cX3_stretchedCosine 28 = .ok (.aload_n 0, 1) := by decide +kernel
theorem dX3_stretchedCosine_29 : decode cX3_stretchedCosine 29 = .ok (.getfield 18, 3) := by decide +kernel
theorem dX3_stretchedCosine_32 : decode cX3_stretchedCosine 32 = .ok (.aload_n 0, 1) := by decide +kernel
theorem dX3_stretchedCosine_33 : decode cX3_stretchedCosine 33 = .ok (.getfield 21, 3) := by decide +kernel
theorem dX3_stretchedCosine_36 : decode cX3_stretchedCosine 36 = .ok (.iadd, 1) := by decide +kernel
theorem dX3_stretchedCosine_37 : decode cX3_stretchedCosine 37 = .ok (.imul, 1) := by decide +kernel
theorem dX3_stretchedCosine_38 : decode cX3_stretchedCosine 38 = .ok (.isub, 1) := by decide +kernel
theorem dX3_stretchedCosine_39 : decode cX3_stretchedCosine 39 = .ok (.ireturn, 1) := by decide +kernel
theorem dX3_foldedCosine_0 : decode cX3_foldedCosine 0 = .ok (.aload_n 0, 1) := by decide +kernel
theorem dX3_foldedCosine_1 : decode cX3_foldedCosine 1 = .ok (.getfield 9, 3) := by decide +kernel
theorem dX3_foldedCosine_4 : decode cX3_foldedCosine 4 = .ok (.aload_n 0, 1) := by decide +kernel
theorem dX3_foldedCosine_5 : decode cX3_foldedCosine 5 = .ok (.getfield 9, 3) := by decide +kernel
theorem dX3_foldedCosine_8 : decode cX3_foldedCosine 8 = .ok (.imul, 1) := by decide +kernel
theorem dX3_foldedCosine_9 : decode cX3_foldedCosine 9 = .ok (.aload_n 0, 1) := by decide +kernel
theorem dX3_foldedCosine_10 : decode cX3_foldedCosine 10 = .ok (.getfield 15, 3) := by decide +kernel
theorem dX3_foldedCosine_13 : decode cX3_foldedCosine 13 = .ok (.aload_n 0, 1) := by decide +kernel
theorem dX3_foldedCosine_14 : decode cX3_foldedCosine 14 = .ok (.getfield 15, 3) := by decide +kernel
theorem dX3_foldedCosine_17 : decode cX3_foldedCosine 17 = .ok (.imul, 1) := by decide +kernel
theorem dX3_foldedCosine_18 : decode cX3_foldedCosine 18 = .ok (.iadd, 1) := by decide +kernel
theorem dX3_foldedCosine_19 : decode cX3_foldedCosine 19 = .ok (.aload_n 0, 1) := by decide +kernel
theorem dX3_foldedCosine_20 : decode cX3_foldedCosine 20 = .ok (.getfield 18, 3) := by decide +kernel
theorem dX3_foldedCosine_23 : decode cX3_foldedCosine 23 = .ok (.aload_n 0, 1) := by decide +kernel
theorem dX3_foldedCosine_24 : decode cX3_foldedCosine 24 = .ok (.getfield 21, 3) := by decide +kernel
theorem dX3_foldedCosine_27 : decode cX3_foldedCosine 27 = .ok (.isub, 1) := by decide +kernel
theorem dX3_foldedCosine_28 : decode cX3_foldedCosine 28 = .ok (.aload_n 0, 1) := by decide +kernel
theorem dX3_foldedCosine_29 : decode cX3_foldedCosine 29 = .ok (.getfield 18, 3) := by decide +kernel
theorem dX3_foldedCosine_32 : decode cX3_foldedCosine 32 = .ok (.aload_n 0, 1) := by decide +kernel
theorem dX3_foldedCosine_33 : decode cX3_foldedCosine 33 = .ok (.getfield 21, 3) := by decide +kernel
theorem dX3_foldedCosine_36 : decode cX3_foldedCosine 36 = .ok (.isub, 1) := by decide +kernel
theorem dX3_foldedCosine_37 : decode cX3_foldedCosine 37 = .ok (.imul, 1) := by decide +kernel
theorem dX3_foldedCosine_38 : decode cX3_foldedCosine 38 = .ok (.isub, 1) := by decide +kernel
theorem dX3_foldedCosine_39 : decode cX3_foldedCosine 39 = .ok (.ireturn, 1) := by decide +kernel
theorem dX3_leastCosine_0 : decode cX3_leastCosine 0 = .ok (.aload_n 0, 1) := by decide +kernel
theorem dX3_leastCosine_1 : decode cX3_leastCosine 1 = .ok (.invokevirtual 64, 3) := by decide +kernel
theorem dX3_leastCosine_4 : decode cX3_leastCosine 4 = .ok (.ineg, 1) := by decide +kernel
theorem dX3_leastCosine_5 : decode cX3_leastCosine 5 = .ok (.aload_n 0, 1) := by decide +kernel
theorem dX3_leastCosine_6 : decode cX3_leastCosine 6 = .ok (.invokevirtual 67, 3) := by decide +kernel
theorem dX3_leastCosine_9 : decode cX3_leastCosine 9 = .ok (.invokestatic 30, 3) := by decide +kernel
theorem dX3_leastCosine_12 : decode cX3_leastCosine 12 = .ok (.ireturn, 1) := by decide +kernel
theorem dX3_greatestCosine_0 : decode cX3_greatestCosine 0 = .ok (.aload_n 0, 1) := by decide +kernel
theorem dX3_greatestCosine_1 : decode cX3_greatestCosine 1 = .ok (.invokevirtual 64, 3) := by decide +kernel
theorem dX3_greatestCosine_4 : decode cX3_greatestCosine 4 = .ok (.aload_n 0, 1) := by decide +kernel
theorem dX3_greatestCosine_5 : decode cX3_greatestCosine 5 = .ok (.invokevirtual 70, 3) := by decide +kernel
theorem dX3_greatestCosine_8 : decode cX3_greatestCosine 8 = .ok (.invokestatic 36, 3) := by decide +kernel
theorem dX3_greatestCosine_11 : decode cX3_greatestCosine 11 = .ok (.ireturn, 1) := by decide +kernel
theorem dX3_hasCosines_0 : decode cX3_hasCosines 0 = .ok (.aload_n 0, 1) := by decide +kernel
theorem dX3_hasCosines_1 : decode cX3_hasCosines 1 = .ok (.invokevirtual 73, 3) := by decide +kernel
theorem dX3_hasCosines_4 : decode cX3_hasCosines 4 = .ok (.aload_n 0, 1) := by decide +kernel
theorem dX3_hasCosines_5 : decode cX3_hasCosines 5 = .ok (.invokevirtual 76, 3) := by decide +kernel
theorem dX3_hasCosines_8 : decode cX3_hasCosines 8 = .ok (.if_icmp .gt 7, 3) := by decide +kernel
theorem dX3_hasCosines_11 : decode cX3_hasCosines 11 = .ok (.iconst 1, 1) := by decide +kernel
theorem dX3_hasCosines_12 : decode cX3_hasCosines 12 = .ok (.goto 4, 3) := by decide +kernel
theorem dX3_hasCosines_15 : decode cX3_hasCosines 15 = .ok (.iconst 0, 1) := by decide +kernel
theorem dX3_hasCosines_16 : decode cX3_hasCosines 16 = .ok (.ireturn, 1) := by decide +kernel
theorem dX3_isEnd_0 : decode cX3_isEnd 0 = .ok (.iload_n 1, 1) := by decide +kernel
theorem dX3_isEnd_1 : decode cX3_isEnd 1 = .ok (.aload_n 0, 1) := by decide +kernel
theorem dX3_isEnd_2 : decode cX3_isEnd 2 = .ok (.invokevirtual 64, 3) := by decide +kernel
theorem dX3_isEnd_5 : decode cX3_isEnd 5 = .ok (.ineg, 1) := by decide +kernel
theorem dX3_isEnd_6 : decode cX3_isEnd 6 = .ok (.if_icmp .lt 15, 3) := by decide +kernel
theorem dX3_isEnd_9 : decode cX3_isEnd 9 = .ok (.iload_n 1, 1) := by decide +kernel
theorem dX3_isEnd_10 : decode cX3_isEnd 10 = .ok (.aload_n 0, 1) := by decide +kernel
theorem dX3_isEnd_11 : decode cX3_isEnd 11 = .ok (.invokevirtual 64, 3) := by decide +kernel
theorem dX3_isEnd_14 : decode cX3_isEnd 14 = .ok (.if_icmp .gt 7, 3) := by decide +kernel
theorem dX3_isEnd_17 : decode cX3_isEnd 17 = .ok (.iconst 1, 1) := by decide +kernel
theorem dX3_isEnd_18 : decode cX3_isEnd 18 = .ok (.goto 4, 3) := by decide +kernel
theorem dX3_isEnd_21 : decode cX3_isEnd 21 = .ok (.iconst 0, 1) := by decide +kernel
theorem dX3_isEnd_22 : decode cX3_isEnd 22 = .ok (.ireturn, 1) := by decide +kernel
theorem dX3_endCount_0 : decode cX3_endCount 0 = .ok (.aload_n 0, 1) := by decide +kernel
theorem dX3_endCount_1 : decode cX3_endCount 1 = .ok (.aload_n 0, 1) := by decide +kernel
theorem dX3_endCount_2 : decode cX3_endCount 2 = .ok (.invokevirtual 67, 3) := by decide +kernel
theorem dX3_endCount_5 : decode cX3_endCount 5 = .ok (.invokevirtual 79, 3) := by decide +kernel
theorem dX3_endCount_8 : decode cX3_endCount 8 = .ok (.ifCond .eq 7, 3) := by decide +kernel
theorem dX3_endCount_11 : decode cX3_endCount 11 = .ok (.iconst 1, 1) := by decide +kernel
theorem dX3_endCount_12 : decode cX3_endCount 12 = .ok (.goto 4, 3) := by decide +kernel
theorem dX3_endCount_15 : decode cX3_endCount 15 = .ok (.iconst 0, 1) := by decide +kernel
theorem dX3_endCount_16 : decode cX3_endCount 16 = .ok (.aload_n 0, 1) := by decide +kernel
theorem dX3_endCount_17 : decode cX3_endCount 17 = .ok (.aload_n 0, 1) := by decide +kernel
theorem dX3_endCount_18 : decode cX3_endCount 18 = .ok (.invokevirtual 70, 3) := by decide +kernel
theorem dX3_endCount_21 : decode cX3_endCount 21 = .ok (.invokevirtual 79, 3) := by decide +kernel
theorem dX3_endCount_24 : decode cX3_endCount 24 = .ok (.ifCond .eq 7, 3) := by decide +kernel
theorem dX3_endCount_27 : decode cX3_endCount 27 = .ok (.iconst 1, 1) := by decide +kernel
theorem dX3_endCount_28 : decode cX3_endCount 28 = .ok (.goto 4, 3) := by decide +kernel
theorem dX3_endCount_31 : decode cX3_endCount 31 = .ok (.iconst 0, 1) := by decide +kernel
theorem dX3_endCount_32 : decode cX3_endCount 32 = .ok (.iadd, 1) := by decide +kernel
theorem dX3_endCount_33 : decode cX3_endCount 33 = .ok (.ireturn, 1) := by decide +kernel
theorem dX3_endsBehind_0 : decode cX3_endsBehind 0 = .ok (.aload_n 0, 1) := by decide +kernel
theorem dX3_endsBehind_1 : decode cX3_endsBehind 1 = .ok (.aload_n 0, 1) := by decide +kernel
theorem dX3_endsBehind_2 : decode cX3_endsBehind 2 = .ok (.invokevirtual 67, 3) := by decide +kernel
theorem dX3_endsBehind_5 : decode cX3_endsBehind 5 = .ok (.iload_n 1, 1) := by decide +kernel
theorem dX3_endsBehind_6 : decode cX3_endsBehind 6 = .ok (.invokevirtual 83, 3) := by decide +kernel
theorem dX3_endsBehind_9 : decode cX3_endsBehind 9 = .ok (.ifCond .eq 7, 3) := by decide +kernel
theorem dX3_endsBehind_12 : decode cX3_endsBehind 12 = .ok (.iconst 1, 1) := by decide +kernel
theorem dX3_endsBehind_13 : decode cX3_endsBehind 13 = .ok (.goto 4, 3) := by decide +kernel
theorem dX3_endsBehind_16 : decode cX3_endsBehind 16 = .ok (.iconst 0, 1) := by decide +kernel
theorem dX3_endsBehind_17 : decode cX3_endsBehind 17 = .ok (.aload_n 0, 1) := by decide +kernel
theorem dX3_endsBehind_18 : decode cX3_endsBehind 18 = .ok (.aload_n 0, 1) := by decide +kernel
theorem dX3_endsBehind_19 : decode cX3_endsBehind 19 = .ok (.invokevirtual 70, 3) := by decide +kernel
theorem dX3_endsBehind_22 : decode cX3_endsBehind 22 = .ok (.iload_n 1, 1) := by decide +kernel
theorem dX3_endsBehind_23 : decode cX3_endsBehind 23 = .ok (.invokevirtual 83, 3) := by decide +kernel
theorem dX3_endsBehind_26 : decode cX3_endsBehind 26 = .ok (.ifCond .eq 7, 3) := by decide +kernel
theorem dX3_endsBehind_29 : decode cX3_endsBehind 29 = .ok (.iconst 1, 1) := by decide +kernel
theorem dX3_endsBehind_30 : decode cX3_endsBehind 30 = .ok (.goto 4, 3) := by decide +kernel
theorem dX3_endsBehind_33 : decode cX3_endsBehind 33 = .ok (.iconst 0, 1) := by decide +kernel
theorem dX3_endsBehind_34 : decode cX3_endsBehind 34 = .ok (.iadd, 1) := by decide +kernel
theorem dX3_endsBehind_35 : decode cX3_endsBehind 35 = .ok (.ireturn, 1) := by decide +kernel
theorem dX3_isEndBehind_0 : decode cX3_isEndBehind 0 = .ok (.aload_n 0, 1) := by decide +kernel
theorem dX3_isEndBehind_1 : decode cX3_isEndBehind 1 = .ok (.iload_n 1, 1) := by decide +kernel
theorem dX3_isEndBehind_2 : decode cX3_isEndBehind 2 = .ok (.invokevirtual 79, 3) := by decide +kernel
theorem dX3_isEndBehind_5 : decode cX3_isEndBehind 5 = .ok (.ifCond .eq 26, 3) := by decide +kernel
theorem dX3_isEndBehind_8 : decode cX3_isEndBehind 8 = .ok (.aload_n 0, 1) := by decide +kernel
theorem dX3_isEndBehind_9 : decode cX3_isEndBehind 9 = .ok (.iload_n 1, 1) := by decide +kernel
theorem dX3_isEndBehind_10 : decode cX3_isEndBehind 10 = .ok (.iload_n 2, 1) := by decide +kernel
theorem dX3_isEndBehind_11 : decode cX3_isEndBehind 11 = .ok (.invokevirtual 87, 3) := by decide +kernel
theorem dX3_isEndBehind_14 : decode cX3_isEndBehind 14 = .ok (.aload_n 0, 1) := by decide +kernel
theorem dX3_isEndBehind_15 : decode cX3_isEndBehind 15 = .ok (.iload_n 1, 1) := by decide +kernel
theorem dX3_isEndBehind_16 : decode cX3_isEndBehind 16 = .ok (.iload_n 2, 1) := by decide +kernel
theorem dX3_isEndBehind_17 : decode cX3_isEndBehind 17 = .ok (.invokestatic 90, 3) := by decide +kernel
theorem dX3_isEndBehind_20 : decode cX3_isEndBehind 20 = .ok (.invokevirtual 87, 3) := by decide +kernel
theorem dX3_isEndBehind_23 : decode cX3_isEndBehind 23 = .ok (.imul, 1) := by decide +kernel
theorem dX3_isEndBehind_24 : decode cX3_isEndBehind 24 = .ok (.ifCond .ge 7, 3) := by decide +kernel
theorem dX3_isEndBehind_27 : decode cX3_isEndBehind 27 = .ok (.iconst 1, 1) := by decide +kernel
theorem dX3_isEndBehind_28 : decode cX3_isEndBehind 28 = .ok (.goto 4, 3) := by decide +kernel
theorem dX3_isEndBehind_31 : decode cX3_isEndBehind 31 = .ok (.iconst 0, 1) := by decide +kernel
theorem dX3_isEndBehind_32 : decode cX3_isEndBehind 32 = .ok (.ireturn, 1) := by decide +kernel
theorem dX3_sideOf_0 : decode cX3_sideOf 0 = .ok (.iload_n 2, 1) := by decide +kernel
theorem dX3_sideOf_1 : decode cX3_sideOf 1 = .ok (.invokestatic 95, 3) := by decide +kernel
theorem dX3_sideOf_4 : decode cX3_sideOf 4 = .ok (.istore_n 3, 1) := by decide +kernel
theorem dX3_sideOf_5 : decode cX3_sideOf 5 = .ok (.iload_n 2, 1) := by decide +kernel
theorem dX3_sideOf_6 : decode cX3_sideOf 6 = .ok (.invokestatic 98, 3) := by decide +kernel
theorem dX3_sideOf_9 : decode cX3_sideOf 9 = .ok (.istore 4, 2) := by decide +kernel
theorem dX3_sideOf_11 : decode cX3_sideOf 11 = .ok (.iload_n 1, 1) := by decide +kernel
theorem dX3_sideOf_12 : decode cX3_sideOf 12 = .ok (.iload_n 3, 1) := by decide +kernel
theorem dX3_sideOf_13 : decode cX3_sideOf 13 = .ok (.iload 4, 2) := by decide +kernel
theorem dX3_sideOf_15 : decode cX3_sideOf 15 = .ok (.invokestatic 101, 3) := by decide +kernel
theorem dX3_sideOf_18 : decode cX3_sideOf 18 = .ok (.imul, 1) := by decide +kernel
theorem dX3_sideOf_19 : decode cX3_sideOf 19 = .ok (.aload_n 0, 1) := by decide +kernel
theorem dX3_sideOf_20 : decode cX3_sideOf 20 = .ok (.invokevirtual 64, 3) := by decide +kernel
theorem dX3_sideOf_23 : decode cX3_sideOf 23 = .ok (.iload_n 3, 1) := by decide +kernel
theorem dX3_sideOf_24 : decode cX3_sideOf 24 = .ok (.iload 4, 2) := by decide +kernel
theorem dX3_sideOf_26 : decode cX3_sideOf 26 = .ok (.invokestatic 104, 3) := by decide +kernel
theorem dX3_sideOf_29 : decode cX3_sideOf 29 = .ok (.imul, 1) := by decide +kernel
theorem dX3_sideOf_30 : decode cX3_sideOf 30 = .ok (.invokestatic 107, 3) := by decide +kernel
theorem dX3_sideOf_33 : decode cX3_sideOf 33 = .ok (.ireturn, 1) := by decide +kernel
theorem dX3_arcCount_0 : decode cX3_arcCount 0 = .ok (.aload_n 0, 1) := by decide +kernel
theorem dX3_arcCount_1 : decode cX3_arcCount 1 = .ok (.invokevirtual 112, 3) := by decide +kernel
theorem dX3_arcCount_4 : decode cX3_arcCount 4 = .ok (.ifCond .ne 5, 3) := by decide +kernel
theorem dX3_arcCount_7 : decode cX3_arcCount 7 = .ok (.iconst 0, 1) := by decide +kernel
theorem dX3_arcCount_8 : decode cX3_arcCount 8 = .ok (.ireturn, 1) := by decide +kernel
theorem dX3_arcCount_9 : decode cX3_arcCount 9 = .ok (.aload_n 0, 1) := by decide +kernel
theorem dX3_arcCount_10 : decode cX3_arcCount 10 = .ok (.invokevirtual 73, 3) := by decide +kernel
theorem dX3_arcCount_13 : decode cX3_arcCount 13 = .ok (.aload_n 0, 1) := by decide +kernel
theorem dX3_arcCount_14 : decode cX3_arcCount 14 = .ok (.invokevirtual 64, 3) := by decide +kernel
theorem dX3_arcCount_17 : decode cX3_arcCount 17 = .ok (.ineg, 1) := by decide +kernel
theorem dX3_arcCount_18 : decode cX3_arcCount 18 = .ok (.if_icmp .eq 14, 3) := by decide +kernel
theorem dX3_arcCount_21 : decode cX3_arcCount 21 = .ok (.aload_n 0, 1) := by decide +kernel
theorem dX3_arcCount_22 : decode cX3_arcCount 22 = .ok (.invokevirtual 76, 3) := by decide +kernel
theorem dX3_arcCount_25 : decode cX3_arcCount 25 = .ok (.aload_n 0, 1) := by decide +kernel
theorem dX3_arcCount_26 : decode cX3_arcCount 26 = .ok (.invokevirtual 64, 3) := by decide +kernel
theorem dX3_arcCount_29 : decode cX3_arcCount 29 = .ok (.if_icmp .ne 7, 3) := by decide +kernel
theorem dX3_arcCount_32 : decode cX3_arcCount 32 = .ok (.iconst 1, 1) := by decide +kernel
theorem dX3_arcCount_33 : decode cX3_arcCount 33 = .ok (.goto 4, 3) := by decide +kernel
theorem dX3_arcCount_36 : decode cX3_arcCount 36 = .ok (.iconst 2, 1) := by decide +kernel
theorem dX3_arcCount_37 : decode cX3_arcCount 37 = .ok (.ireturn, 1) := by decide +kernel
theorem dX3_isByBranches_0 : decode cX3_isByBranches 0 = .ok (.aload_n 0, 1) := by decide +kernel
theorem dX3_isByBranches_1 : decode cX3_isByBranches 1 = .ok (.invokevirtual 112, 3) := by decide +kernel
theorem dX3_isByBranches_4 : decode cX3_isByBranches 4 = .ok (.ifCond .eq 22, 3) := by decide +kernel
theorem dX3_isByBranches_7 : decode cX3_isByBranches 7 = .ok (.aload_n 0, 1) := by decide +kernel
theorem dX3_isByBranches_8 : decode cX3_isByBranches 8 = .ok (.iconst 0, 1) := by decide +kernel
theorem dX3_isByBranches_9 : decode cX3_isByBranches 9 = .ok (.invokevirtual 115, 3) := by decide +kernel
theorem dX3_isByBranches_12 : decode cX3_isByBranches 12 = .ok (.ifCond .eq 14, 3) := by decide +kernel
theorem dX3_isByBranches_15 : decode cX3_isByBranches 15 = .ok (.aload_n 0, 1) := by decide +kernel
theorem dX3_isByBranches_16 : decode cX3_isByBranches 16 = .ok (.invokevirtual 118, 3) := by decide +kernel
theorem dX3_isByBranches_19 : decode cX3_isByBranches 19 = .ok (.ifCond .ne 7, 3) := by decide +kernel
theorem dX3_isByBranches_22 : decode cX3_isByBranches 22 = .ok (.iconst 1, 1) := by decide +kernel
theorem dX3_isByBranches_23 : decode cX3_isByBranches 23 = .ok (.goto 4, 3) := by decide +kernel
theorem dX3_isByBranches_26 : decode cX3_isByBranches 26 = .ok (.iconst 0, 1) := by decide +kernel
theorem dX3_isByBranches_27 : decode cX3_isByBranches 27 = .ok (.ireturn, 1) := by decide +kernel
theorem dX3_circuitCount_0 : decode cX3_circuitCount 0 = .ok (.aload_n 0, 1) := by decide +kernel
theorem dX3_circuitCount_1 : decode cX3_circuitCount 1 = .ok (.invokevirtual 121, 3) := by decide +kernel
theorem dX3_circuitCount_4 : decode cX3_circuitCount 4 = .ok (.ifCond .eq 7, 3) := by decide +kernel
theorem dX3_circuitCount_7 : decode cX3_circuitCount 7 = .ok (.iconst 2, 1) := by decide +kernel
theorem dX3_circuitCount_8 : decode cX3_circuitCount 8 = .ok (.goto 7, 3) := by decide +kernel
theorem dX3_circuitCount_11 : decode cX3_circuitCount 11 = .ok (.aload_n 0, 1) := by decide +kernel
theorem dX3_circuitCount_12 : decode cX3_circuitCount 12 = .ok (.invokevirtual 124, 3) := by decide +kernel
theorem dX3_circuitCount_15 : decode cX3_circuitCount 15 = .ok (.ireturn, 1) := by decide +kernel
theorem dX3_swingUpper_0 : decode cX3_swingUpper 0 = .ok (.aload_n 0, 1) := by decide +kernel
theorem dX3_swingUpper_1 : decode cX3_swingUpper 1 = .ok (.getfield 18, 3) := by decide +kernel
theorem dX3_swingUpper_4 : decode cX3_swingUpper 4 = .ok (.aload_n 0, 1) := by decide +kernel
theorem dX3_swingUpper_5 : decode cX3_swingUpper 5 = .ok (.getfield 18, 3) := by decide +kernel
theorem dX3_swingUpper_8 : decode cX3_swingUpper 8 = .ok (.imul, 1) := by decide +kernel
theorem dX3_swingUpper_9 : decode cX3_swingUpper 9 = .ok (.aload_n 0, 1) := by decide +kernel
theorem dX3_swingUpper_10 : decode cX3_swingUpper 10 = .ok (.getfield 21, 3) := by decide +kernel
theorem dX3_swingUpper_13 : decode cX3_swingUpper 13 = .ok (.aload_n 0, 1) := by decide +kernel
theorem dX3_swingUpper_14 : decode cX3_swingUpper 14 = .ok (.getfield 21, 3) := by decide +kernel
theorem dX3_swingUpper_17 : decode cX3_swingUpper 17 = .ok (.imul, 1) := by decide +kernel
theorem dX3_swingUpper_18 : decode cX3_swingUpper 18 = .ok (.iadd, 1) := by decide +kernel
theorem dX3_swingUpper_19 : decode cX3_swingUpper 19 = .ok (.aload_n 0, 1) := by decide +kernel
theorem dX3_swingUpper_20 : decode cX3_swingUpper 20 = .ok (.getfield 9, 3) := by decide +kernel
theorem dX3_swingUpper_23 : decode cX3_swingUpper 23 = .ok (.aload_n 0, 1) := by decide +kernel
theorem dX3_swingUpper_24 : decode cX3_swingUpper 24 = .ok (.getfield 9, 3) := by decide +kernel
theorem dX3_swingUpper_27 : decode cX3_swingUpper 27 = .ok (.imul, 1) := by decide +kernel
theorem dX3_swingUpper_28 : decode cX3_swingUpper 28 = .ok (.isub, 1) := by decide +kernel
theorem dX3_swingUpper_29 : decode cX3_swingUpper 29 = .ok (.aload_n 0, 1) := by decide +kernel
theorem dX3_swingUpper_30 : decode cX3_swingUpper 30 = .ok (.getfield 15, 3) := by decide +kernel
theorem dX3_swingUpper_33 : decode cX3_swingUpper 33 = .ok (.aload_n 0, 1) := by decide +kernel
theorem dX3_swingUpper_34 : decode cX3_swingUpper 34 = .ok (.getfield 15, 3) := by decide +kernel
theorem dX3_swingUpper_37 : decode cX3_swingUpper 37 = .ok (.imul, 1) := by decide +kernel
theorem dX3_swingUpper_38 : decode cX3_swingUpper 38 = .ok (.isub, 1) := by decide +kernel
theorem dX3_swingUpper_39 : decode cX3_swingUpper 39 = .ok (.iload_n 1, 1) := by decide +kernel
theorem dX3_swingUpper_40 : decode cX3_swingUpper 40 = .ok (.iadd, 1) := by decide +kernel
theorem dX3_swingUpper_41 : decode cX3_swingUpper 41 = .ok (.ireturn, 1) := by decide +kernel
theorem dX3_swingLower_0 : decode cX3_swingLower 0 = .ok (.iconst 2, 1) := by decide +kernel
theorem dX3_swingLower_1 : decode cX3_swingLower 1 = .ok (.aload_n 0, 1) := by decide +kernel
theorem dX3_swingLower_2 : decode cX3_swingLower 2 = .ok (.getfield 18, 3) := by decide +kernel
theorem dX3_swingLower_5 : decode cX3_swingLower 5 = .ok (.imul, 1) := by decide +kernel
theorem dX3_swingLower_6 : decode cX3_swingLower 6 = .ok (.aload_n 0, 1) := by decide +kernel
theorem dX3_swingLower_7 : decode cX3_swingLower 7 = .ok (.getfield 21, 3) := by decide +kernel
theorem dX3_swingLower_10 : decode cX3_swingLower 10 = .ok (.imul, 1) := by decide +kernel
theorem dX3_swingLower_11 : decode cX3_swingLower 11 = .ok (.ireturn, 1) := by decide +kernel
theorem dX4_init_0 : decode cX4_init 0 = .ok (.aload_n 0, 1) := by decide +kernel
theorem dX4_init_1 : decode cX4_init 1 = .ok (.invokespecial 3, 3) := by decide +kernel
theorem dX4_init_4 : decode cX4_init 4 = .ok (.aload_n 0, 1) := by decide +kernel
theorem dX4_init_5 : decode cX4_init 5 = .ok (.iconst 4, 1) := by decide +kernel
theorem dX4_init_6 : decode cX4_init 6 = .ok (.newarray .long, 2) := by decide +kernel
theorem dX4_init_8 : decode cX4_init 8 = .ok (.putfield 11, 3) := by decide +kernel
theorem dX4_init_11 : decode cX4_init 11 = .ok (.aload_n 0, 1) := by decide +kernel
theorem dX4_init_12 : decode cX4_init 12 = .ok (.iconst 4, 1) := by decide +kernel
theorem dX4_init_13 : decode cX4_init 13 = .ok (.newarray .long, 2) := by decide +kernel
theorem dX4_init_15 : decode cX4_init 15 = .ok (.putfield 15, 3) := by decide +kernel
theorem dX4_init_18 : decode cX4_init 18 = .ok (.aload_n 0, 1) := by decide +kernel
theorem dX4_init_19 : decode cX4_init 19 = .ok (.iconst 4, 1) := by decide +kernel
theorem dX4_init_20 : decode cX4_init 20 = .ok (.newarray .long, 2) := by decide +kernel
theorem dX4_init_22 : decode cX4_init 22 = .ok (.putfield 18, 3) := by decide +kernel
theorem dX4_init_25 : decode cX4_init 25 = .ok (.aload_n 0, 1) := by decide +kernel
theorem dX4_init_26 : decode cX4_init 26 = .ok (.iconst 4, 1) := by decide +kernel
theorem dX4_init_27 : decode cX4_init 27 = .ok (.newarray .long, 2) := by decide +kernel
theorem dX4_init_29 : decode cX4_init 29 = .ok (.putfield 21, 3) := by decide +kernel
theorem dX4_init_32 : decode cX4_init 32 = .ok (.aload_n 0, 1) := by decide +kernel
theorem dX4_init_33 : decode cX4_init 33 = .ok (.bipush 19, 2) := by decide +kernel
theorem dX4_init_35 : decode cX4_init 35 = .ok (.newarray .long, 2) := by decide +kernel
theorem dX4_init_37 : decode cX4_init 37 = .ok (.putfield 24, 3) := by decide +kernel
theorem dX4_init_40 : decode cX4_init 40 = .ok (.aload_n 0, 1) := by decide +kernel
theorem dX4_init_41 : decode cX4_init 41 = .ok (.bipush 19, 2) := by decide +kernel
theorem dX4_init_43 : decode cX4_init 43 = .ok (.newarray .long, 2) := by decide +kernel
theorem dX4_init_45 : decode cX4_init 45 = .ok (.putfield 27, 3) := by decide +kernel
theorem dX4_init_48 : decode cX4_init 48 = .ok (.aload_n 0, 1) := by decide +kernel
theorem dX4_init_49 : decode cX4_init 49 = .ok (.iconst 0, 1) := by decide +kernel
theorem dX4_init_50 : decode cX4_init 50 = .ok (.putfield 30, 3) := by decide +kernel
theorem dX4_init_53 : decode cX4_init 53 = .ok (.aload_n 0, 1) := by decide +kernel
theorem dX4_init_54 : decode cX4_init 54 = .ok (.iconst 0, 1) := by decide +kernel
theorem dX4_init_55 : decode cX4_init 55 = .ok (.putfield 34, 3) := by decide +kernel
theorem dX4_init_58 : decode cX4_init 58 = .ok (.aload_n 0, 1) := by decide +kernel
theorem dX4_init_59 : decode cX4_init 59 = .ok (.iconst 0, 1) := by decide +kernel
theorem dX4_init_60 : decode cX4_init 60 = .ok (.putfield 37, 3) := by decide +kernel
theorem dX4_init_63 : decode cX4_init 63 = .ok (.aload_n 0, 1) := by decide +kernel
theorem dX4_init_64 : decode cX4_init 64 = .ok (.iconst 0, 1) := by decide +kernel
theorem dX4_init_65 : decode cX4_init 65 = .ok (.putfield 40, 3) := by decide +kernel
theorem dX4_init_68 : decode cX4_init 68 = .ok (.aload_n 0, 1) := by decide +kernel
theorem dX4_init_69 : decode cX4_init 69 = .ok (.iconst 0, 1) := by decide +kernel
theorem dX4_init_70 : decode cX4_init 70 = .ok (.putfield 43, 3) := by decide +kernel
theorem dX4_init_73 : decode cX4_init 73 = .ok (.aload_n 0, 1) := by decide +kernel
theorem dX4_init_74 : decode cX4_init 74 = .ok (.lconst 1, 1) := by decide +kernel
theorem dX4_init_75 : decode cX4_init 75 = .ok (.putfield 46, 3) := by decide +kernel
theorem dX4_init_78 : decode cX4_init 78 = .ok (.aload_n 0, 1) := by decide +kernel
theorem dX4_init_79 : decode cX4_init 79 = .ok (.lconst 0, 1) := by decide +kernel
theorem dX4_init_80 : decode cX4_init 80 = .ok (.putfield 50, 3) := by decide +kernel
theorem dX4_init_83 : decode cX4_init 83 = .ok (.return_, 1) := by decide +kernel
theorem dX4_take_0 : decode cX4_take 0 = .ok (.aload_n 0, 1) := by decide +kernel
theorem dX4_take_1 : decode cX4_take 1 = .ok (.aload_n 1, 1) := by decide +kernel
theorem dX4_take_2 : decode cX4_take 2 = .ok (.iconst 3, 1) := by decide +kernel
theorem dX4_take_3 : decode cX4_take 3 = .ok (.invokevirtual 53, 3) := by decide +kernel
theorem dX4_take_6 : decode cX4_take 6 = .ok (.iconst 4, 1) := by decide +kernel
theorem dX4_take_7 : decode cX4_take 7 = .ok (.invokestatic 58, 3) := by decide +kernel
theorem dX4_take_10 : decode cX4_take 10 = .ok (.putfield 30, 3) := by decide +kernel
theorem dX4_take_13 : decode cX4_take 13 = .ok (.aload_n 0, 1) := by decide +kernel
theorem dX4_take_14 : decode cX4_take 14 = .ok (.iconst 0, 1) := by decide +kernel
theorem dX4_take_15 : decode cX4_take 15 = .ok (.putfield 34, 3) := by decide +kernel
theorem dX4_take_18 : decode cX4_take 18 = .ok (.aload_n 0, 1) := by decide +kernel
theorem dX4_take_19 : decode cX4_take 19 = .ok (.lconst 1, 1) := by decide +kernel
theorem dX4_take_20 : decode cX4_take 20 = .ok (.putfield 46, 3) := by decide +kernel
theorem dX4_take_23 : decode cX4_take 23 = .ok (.iconst 0, 1) := by decide +kernel
theorem dX4_take_24 : decode cX4_take 24 = .ok (.istore_n 2, 1) := by decide +kernel
theorem dX4_take_25 : decode cX4_take 25 = .ok (.iload_n 2, 1) := by decide +kernel
theorem dX4_take_26 : decode cX4_take 26 = .ok (.aload_n 0, 1) := by decide +kernel
theorem dX4_take_27 : decode cX4_take 27 = .ok (.getfield 30, 3) := by decide +kernel
theorem dX4_take_30 : decode cX4_take 30 = .ok (.if_icmp .ge 158, 3) := by decide +kernel
theorem dX4_take_33 : decode cX4_take 33 = .ok (.aload_n 1, 1) := by decide +kernel
theorem dX4_take_34 : decode cX4_take 34 = .ok (.iconst 3, 1) := by decide +kernel
theorem dX4_take_35 : decode cX4_take 35 = .ok (.iload_n 2, 1) := by decide +kernel
theorem dX4_take_36 : decode cX4_take 36 = .ok (.iconst 0, 1) := by decide +kernel
theorem dX4_take_37 : decode cX4_take 37 = .ok (.invokevirtual 64, 3) := by decide +kernel
theorem dX4_take_40 : decode cX4_take 40 = .ok (.istore_n 3, 1) := by decide +kernel
theorem dX4_take_41 : decode cX4_take 41 = .ok (.aload_n 1, 1) := by decide +kernel
theorem dX4_take_42 : decode cX4_take 42 = .ok (.iconst 3, 1) := by decide +kernel
theorem dX4_take_43 : decode cX4_take 43 = .ok (.iload_n 2, 1) := by decide +kernel
theorem dX4_take_44 : decode cX4_take 44 = .ok (.iconst 1, 1) := by decide +kernel
theorem dX4_take_45 : decode cX4_take 45 = .ok (.invokevirtual 64, 3) := by decide +kernel
theorem dX4_take_48 : decode cX4_take 48 = .ok (.istore 4, 2) := by decide +kernel
theorem dX4_take_50 : decode cX4_take 50 = .ok (.aload_n 1, 1) := by decide +kernel
theorem dX4_take_51 : decode cX4_take 51 = .ok (.iconst 3, 1) := by decide +kernel
theorem dX4_take_52 : decode cX4_take 52 = .ok (.iload_n 2, 1) := by decide +kernel
theorem dX4_take_53 : decode cX4_take 53 = .ok (.iconst 2, 1) := by decide +kernel
theorem dX4_take_54 : decode cX4_take 54 = .ok (.invokevirtual 64, 3) := by decide +kernel
theorem dX4_take_57 : decode cX4_take 57 = .ok (.istore 5, 2) := by decide +kernel
theorem dX4_take_59 : decode cX4_take 59 = .ok (.aload_n 1, 1) := by decide +kernel
theorem dX4_take_60 : decode cX4_take 60 = .ok (.iconst 3, 1) := by decide +kernel
theorem dX4_take_61 : decode cX4_take 61 = .ok (.iload_n 2, 1) := by decide +kernel
theorem dX4_take_62 : decode cX4_take 62 = .ok (.iconst 3, 1) := by decide +kernel
theorem dX4_take_63 : decode cX4_take 63 = .ok (.invokevirtual 64, 3) := by decide +kernel
theorem dX4_take_66 : decode cX4_take 66 = .ok (.istore 6, 2) := by decide +kernel
theorem dX4_take_68 : decode cX4_take 68 = .ok (.aload_n 0, 1) := by decide +kernel
theorem dX4_take_69 : decode cX4_take 69 = .ok (.getfield 11, 3) := by decide +kernel
theorem dX4_take_72 : decode cX4_take 72 = .ok (.iload_n 2, 1) := by decide +kernel
theorem dX4_take_73 : decode cX4_take 73 = .ok (.iload_n 3, 1) := by decide +kernel
theorem dX4_take_74 : decode cX4_take 74 = .ok (.iload 4, 2) := by decide +kernel
theorem dX4_take_76 : decode cX4_take 76 = .ok (.invokestatic 68, 3) := by decide +kernel
theorem dX4_take_79 : decode cX4_take 79 = .ok (.iload 5, 2) := by decide +kernel
theorem dX4_take_81 : decode cX4_take 81 = .ok (.iload 6, 2) := by decide +kernel
theorem dX4_take_83 : decode cX4_take 83 = .ok (.invokestatic 73, 3) := by decide +kernel
theorem dX4_take_86 : decode cX4_take 86 = .ok (.imul, 1) := by decide +kernel
theorem dX4_take_87 : decode cX4_take 87 = .ok (.i2l, 1) := by decide +kernel
theorem dX4_take_88 : decode cX4_take 88 = .ok (.lastore, 1) := by decide +kernel
theorem dX4_take_89 : decode cX4_take 89 = .ok (.aload_n 0, 1) := by decide +kernel
theorem dX4_take_90 : decode cX4_take 90 = .ok (.getfield 15, 3) := by decide +kernel
theorem dX4_take_93 : decode cX4_take 93 = .ok (.iload_n 2, 1) := by decide +kernel
theorem dX4_take_94 : decode cX4_take 94 = .ok (.iload 5, 2) := by decide +kernel
theorem dX4_take_96 : decode cX4_take 96 = .ok (.iload 6, 2) := by decide +kernel
theorem dX4_take_98 : decode cX4_take 98 = .ok (.invokestatic 68, 3) := by decide +kernel
theorem dX4_take_101 : decode cX4_take 101 = .ok (.iload_n 3, 1) := by decide +kernel
theorem dX4_take_102 : decode cX4_take 102 = .ok (.iload 4, 2) := by decide +kernel
theorem dX4_take_104 : decode cX4_take 104 = .ok (.invokestatic 73, 3) := by decide +kernel
theorem dX4_take_107 : decode cX4_take 107 = .ok (.imul, 1) := by decide +kernel
theorem dX4_take_108 : decode cX4_take 108 = .ok (.i2l, 1) := by decide +kernel
theorem dX4_take_109 : decode cX4_take 109 = .ok (.lastore, 1) := by decide +kernel
theorem dX4_take_110 : decode cX4_take 110 = .ok (.aload_n 0, 1) := by decide +kernel
theorem dX4_take_111 : decode cX4_take 111 = .ok (.getfield 18, 3) := by decide +kernel
theorem dX4_take_114 : decode cX4_take 114 = .ok (.iload_n 2, 1) := by decide +kernel
theorem dX4_take_115 : decode cX4_take 115 = .ok (.iload_n 3, 1) := by decide +kernel
theorem dX4_take_116 : decode cX4_take 116 = .ok (.iload 4, 2) := by decide +kernel
theorem dX4_take_118 : decode cX4_take 118 = .ok (.invokestatic 68, 3) := by decide +kernel
theorem dX4_take_121 : decode cX4_take 121 = .ok (.iload 5, 2) := by decide +kernel
theorem dX4_take_123 : decode cX4_take 123 = .ok (.iload 6, 2) := by decide +kernel
theorem dX4_take_125 : decode cX4_take 125 = .ok (.invokestatic 68, 3) := by decide +kernel
theorem dX4_take_128 : decode cX4_take 128 = .ok (.imul, 1) := by decide +kernel
theorem dX4_take_129 : decode cX4_take 129 = .ok (.iload_n 3, 1) := by decide +kernel
theorem dX4_take_130 : decode cX4_take 130 = .ok (.iload 4, 2) := by decide +kernel
theorem dX4_take_132 : decode cX4_take 132 = .ok (.invokestatic 76, 3) := by decide +kernel
theorem dX4_take_135 : decode cX4_take 135 = .ok (.iload 5, 2) := by decide +kernel
theorem dX4_take_137 : decode cX4_take 137 = .ok (.iload 6, 2) := by decide +kernel
theorem dX4_take_139 : decode cX4_take 139 = .ok (.invokestatic 76, 3) := by decide +kernel
theorem dX4_take_142 : decode cX4_take 142 = .ok (.imul, 1) := by decide +kernel
theorem dX4_take_143 : decode cX4_take 143 = .ok (.iadd, 1) := by decide +kernel
theorem dX4_take_144 : decode cX4_take 144 = .ok (.i2l, 1) := by decide +kernel
theorem dX4_take_145 : decode cX4_take 145 = .ok (.lastore, 1) := by decide +kernel
theorem dX4_take_146 : decode cX4_take 146 = .ok (.aload_n 0, 1) := by decide +kernel
theorem dX4_take_147 : decode cX4_take 147 = .ok (.getfield 21, 3) := by decide +kernel
theorem dX4_take_150 : decode cX4_take 150 = .ok (.iload_n 2, 1) := by decide +kernel
theorem dX4_take_151 : decode cX4_take 151 = .ok (.iload_n 3, 1) := by decide +kernel
theorem dX4_take_152 : decode cX4_take 152 = .ok (.iload 4, 2) := by decide +kernel
theorem dX4_take_154 : decode cX4_take 154 = .ok (.invokestatic 73, 3) := by decide +kernel
theorem dX4_take_157 : decode cX4_take 157 = .ok (.iload 5, 2) := by decide +kernel
theorem dX4_take_159 : decode cX4_take 159 = .ok (.iload 6, 2) := by decide +kernel
theorem dX4_take_161 : decode cX4_take 161 = .ok (.invokestatic 73, 3) := by decide +kernel
theorem dX4_take_164 : decode cX4_take 164 = .ok (.imul, 1) := by decide +kernel
theorem dX4_take_165 : decode cX4_take 165 = .ok (.i2l, 1) := by decide +kernel
theorem dX4_take_166 : decode cX4_take 166 = .ok (.lastore, 1) := by decide +kernel
theorem dX4_take_167 : decode cX4_take 167 = .ok (.aload_n 0, 1) := by decide +kernel
theorem dX4_take_168 : decode cX4_take 168 = .ok (.dup, 1) := by decide +kernel
theorem dX4_take_169 : decode cX4_take 169 = .ok (.getfield 46, 3) := by decide +kernel
theorem dX4_take_172 : decode cX4_take 172 = .ok (.aload_n 0, 1) := by decide +kernel
theorem dX4_take_173 : decode cX4_take 173 = .ok (.getfield 21, 3) := by decide +kernel
theorem dX4_take_176 : decode cX4_take 176 = .ok (.iload_n 2, 1) := by decide +kernel
theorem dX4_take_177 : decode cX4_take 177 = .ok (.laload, 1) := by decide +kernel
theorem dX4_take_178 : decode cX4_take 178 = .ok (.lmul, 1) := by decide +kernel
theorem dX4_take_179 : decode cX4_take 179 = .ok (.putfield 46, 3) := by decide +kernel
theorem dX4_take_182 : decode cX4_take 182 = .ok (.iinc 2 1, 3) := by decide +kernel
theorem dX4_take_185 : decode cX4_take 185 = .ok (.goto (-160), 3) := by decide +kernel
theorem dX4_take_188 : decode cX4_take 188 = .ok (.return_, 1) := by decide +kernel
theorem dX4_closingUpper_0 : decode cX4_closingUpper 0 = .ok (.iload_n 1, 1) := by decide +kernel
theorem dX4_closingUpper_1 : decode cX4_closingUpper 1 = .ok (.ifCond .lt 11, 3) := by decide +kernel
theorem dX4_closingUpper_4 : decode cX4_closingUpper 4 = .ok (.iload_n 1, 1) := by decide +kernel
theorem dX4_closingUpper_5 : decode cX4_closingUpper 5 = .ok (.aload_n 0, 1) := by decide +kernel
theorem dX4_closingUpper_6 : decode cX4_closingUpper 6 = .ok (.getfield 30, 3) := by decide +kernel
theorem dX4_closingUpper_9 : decode cX4_closingUpper 9 = .ok (.if_icmp .lt 5, 3) := by decide +kernel
theorem dX4_closingUpper_12 : decode cX4_closingUpper 12 = .ok (.lconst 0, 1) := by decide +kernel
theorem dX4_closingUpper_13 : decode cX4_closingUpper 13 = .ok (.lreturn, 1) := by decide +kernel
theorem dX4_closingUpper_14 : decode cX4_closingUpper 14 = .ok (.aload_n 0, 1) := by decide +kernel
theorem dX4_closingUpper_15 : decode cX4_closingUpper 15 = .ok (.iload_n 1, 1) := by decide +kernel
theorem dX4_closingUpper_16 : decode cX4_closingUpper 16 = .ok (.aload_n 2, 1) := by decide +kernel
theorem dX4_closingUpper_17 : decode cX4_closingUpper 17 = .ok (.getfield 79, 3) := by decide +kernel
theorem dX4_closingUpper_20 : decode cX4_closingUpper 20 = .ok (.i2l, 1) := by decide +kernel
theorem dX4_closingUpper_21 : decode cX4_closingUpper 21 = .ok (.aload_n 2, 1) := by decide +kernel
theorem dX4_closingUpper_22 : decode cX4_closingUpper 22 = .ok (.getfield 84, 3) := by decide +kernel
theorem dX4_closingUpper_25 : decode cX4_closingUpper 25 = .ok (.i2l, 1) := by decide +kernel
theorem dX4_closingUpper_26 : decode cX4_closingUpper 26 = .ok (.aload_n 2, 1) := by decide +kernel
theorem dX4_closingUpper_27 : decode cX4_closingUpper 27 = .ok (.getfield 87, 3) := by decide +kernel
theorem dX4_closingUpper_30 : decode cX4_closingUpper 30 = .ok (.i2l, 1) := by decide +kernel
theorem dX4_closingUpper_31 : decode cX4_closingUpper 31 = .ok (.invokevirtual 90, 3) := by decide +kernel
theorem dX4_closingUpper_34 : decode cX4_closingUpper 34 = .ok (.aload_n 2, 1) := by decide +kernel
theorem dX4_closingUpper_35 : decode cX4_closingUpper 35 = .ok (.getfield 94, 3) := by decide +kernel
theorem dX4_closingUpper_38 : decode cX4_closingUpper 38 = .ok (.i2l, 1) := by decide +kernel
theorem dX4_closingUpper_39 : decode cX4_closingUpper 39 = .ok (.aload_n 2, 1) := by decide +kernel
theorem dX4_closingUpper_40 : decode cX4_closingUpper 40 = .ok (.getfield 94, 3) := by decide +kernel
theorem dX4_closingUpper_43 : decode cX4_closingUpper 43 = .ok (.i2l, 1) := by decide +kernel
theorem dX4_closingUpper_44 : decode cX4_closingUpper 44 = .ok (.lmul, 1) := by decide +kernel
theorem dX4_closingUpper_45 : decode cX4_closingUpper 45 = .ok (.aload_n 0, 1) := by decide +kernel
theorem dX4_closingUpper_46 : decode cX4_closingUpper 46 = .ok (.getfield 21, 3) := by decide +kernel
theorem dX4_closingUpper_49 : decode cX4_closingUpper 49 = .ok (.iload_n 1, 1) := by decide +kernel
theorem dX4_closingUpper_50 : decode cX4_closingUpper 50 = .ok (.laload, 1) := by decide +kernel
theorem dX4_closingUpper_51 : decode cX4_closingUpper 51 = .ok (.lmul, 1) := by decide +kernel
theorem dX4_closingUpper_52 : decode cX4_closingUpper 52 = .ok (.lsub, 1) := by decide +kernel
theorem dX4_closingUpper_53 : decode cX4_closingUpper 53 = .ok (.lreturn, 1) := by decide +kernel
theorem dX4_closingLower_0 : decode cX4_closingLower 0 = .ok (.iload_n 1, 1) := by decide +kernel
theorem dX4_closingLower_1 : decode cX4_closingLower 1 = .ok (.ifCond .lt 20, 3) := by decide +kernel
theorem dX4_closingLower_4 : decode cX4_closingLower 4 = .ok (.iload_n 1, 1) := by decide +kernel
theorem dX4_closingLower_5 : decode cX4_closingLower 5 = .ok (.aload_n 0, 1) := by decide +kernel
theorem dX4_closingLower_6 : decode cX4_closingLower 6 = .ok (.getfield 30, 3) := by decide +kernel
theorem dX4_closingLower_9 : decode cX4_closingLower 9 = .ok (.if_icmp .ge 12, 3) := by decide +kernel
theorem dX4_closingLower_12 : decode cX4_closingLower 12 = .ok (.aload_n 0, 1) := by decide +kernel
theorem dX4_closingLower_13 : decode cX4_closingLower 13 = .ok (.getfield 21, 3) := by decide +kernel
theorem dX4_closingLower_16 : decode cX4_closingLower 16 = .ok (.iload_n 1, 1) := by decide +kernel
theorem dX4_closingLower_17 : decode cX4_closingLower 17 = .ok (.laload, 1) := by decide +kernel
theorem dX4_closingLower_18 : decode cX4_closingLower 18 = .ok (.goto 4, 3) := by decide +kernel
theorem dX4_closingLower_21 : decode cX4_closingLower 21 = .ok (.lconst 1, 1) := by decide +kernel
theorem dX4_closingLower_22 : decode cX4_closingLower 22 = .ok (.lreturn, 1) := by decide +kernel
theorem dX4_withoutRod_0 : decode cX4_withoutRod 0 = .ok (.lload_n 2, 1) := by decide +kernel
theorem dX4_withoutRod_1 : decode cX4_withoutRod 1 = .ok (.lload_n 2, 1) := by decide +kernel
theorem dX4_withoutRod_2 : decode cX4_withoutRod 2 = .ok (.lmul, 1) := by decide +kernel
theorem dX4_withoutRod_3 : decode cX4_withoutRod 3 = .ok (.lload 4, 2) := by decide +kernel
theorem dX4_withoutRod_5 : decode cX4_withoutRod 5 = .ok (.lload 4, 2) := by decide +kernel
theorem dX4_withoutRod_7 : decode cX4_withoutRod 7 = .ok (.lmul, 1) := by decide +kernel
theorem dX4_withoutRod_8 : decode cX4_withoutRod 8 = .ok (.ladd, 1) := by decide +kernel
theorem dX4_withoutRod_9 : decode cX4_withoutRod 9 = .ok (.lload 6, 2) := by decide +kernel
theorem dX4_withoutRod_11 : decode cX4_withoutRod 11 = .ok (.lload 6, 2) := by decide +kernel
theorem dX4_withoutRod_13 : decode cX4_withoutRod 13 = .ok (.lmul, 1) := by decide +kernel
theorem dX4_withoutRod_14 : decode cX4_withoutRod 14 = .ok (.ladd, 1) := by decide +kernel
theorem dX4_withoutRod_15 : decode cX4_withoutRod 15 = .ok (.aload_n 0, 1) := by decide +kernel
theorem dX4_withoutRod_16 : decode cX4_withoutRod 16 = .ok (.getfield 21, 3) := by decide +kernel
theorem dX4_withoutRod_19 : decode cX4_withoutRod 19 = .ok (.iload_n 1, 1) := by decide +kernel
theorem dX4_withoutRod_20 : decode cX4_withoutRod 20 = .ok (.laload, 1) := by decide +kernel
theorem dX4_withoutRod_21 : decode cX4_withoutRod 21 = .ok (.lmul, 1) := by decide +kernel
theorem dX4_withoutRod_22 : decode cX4_withoutRod 22 = .ok (.ldc2_w 97, 3) := by decide +kernel
theorem dX4_withoutRod_25 : decode cX4_withoutRod 25 = .ok (.lload_n 2, 1) := by decide +kernel
theorem dX4_withoutRod_26 : decode cX4_withoutRod 26 = .ok (.lmul, 1) := by decide +kernel
theorem dX4_withoutRod_27 : decode cX4_withoutRod 27 = .ok (.lload 4, 2) := by decide +kernel
theorem dX4_withoutRod_29 : decode cX4_withoutRod 29 = .ok (.lmul, 1) := by decide +kernel
theorem dX4_withoutRod_30 : decode cX4_withoutRod 30 = .ok (.aload_n 0, 1) := by decide +kernel
theorem dX4_withoutRod_31 : decode cX4_withoutRod 31 = .ok (.getfield 11, 3) := by decide +kernel
theorem dX4_withoutRod_34 : decode cX4_withoutRod 34 = .ok (.iload_n 1, 1) := by decide +kernel
theorem dX4_withoutRod_35 : decode cX4_withoutRod 35 = .ok (.laload, 1) := by decide +kernel
theorem dX4_withoutRod_36 : decode cX4_withoutRod 36 = .ok (.lmul, 1) := by decide +kernel
theorem dX4_withoutRod_37 : decode cX4_withoutRod 37 = .ok (.lsub, 1) := by decide +kernel
theorem dX4_withoutRod_38 : decode cX4_withoutRod 38 = .ok (.ldc2_w 97, 3) := by decide +kernel
theorem dX4_withoutRod_41 : decode cX4_withoutRod 41 = .ok (.lload_n 2, 1) := by decide +kernel
theorem dX4_withoutRod_42 : decode cX4_withoutRod 42 = .ok (.lmul, 1) := by decide +kernel
theorem dX4_withoutRod_43 : decode cX4_withoutRod 43 = .ok (.lload 6, 2) := by decide +kernel
theorem dX4_withoutRod_45 : decode cX4_withoutRod 45 = .ok (.lmul, 1) := by decide +kernel
theorem dX4_withoutRod_46 : decode cX4_withoutRod 46 = .ok (.aload_n 0, 1) := by decide +kernel
theorem dX4_withoutRod_47 : decode cX4_withoutRod 47 = .ok (.getfield 15, 3) := by decide +kernel
theorem dX4_withoutRod_50 : decode cX4_withoutRod 50 = .ok (.iload_n 1, 1) := by decide +kernel
theorem dX4_withoutRod_51 : decode cX4_withoutRod 51 = .ok (.laload, 1) := by decide +kernel
theorem dX4_withoutRod_52 : decode cX4_withoutRod 52 = .ok (.lmul, 1) := by decide +kernel
theorem dX4_withoutRod_53 : decode cX4_withoutRod 53 = .ok (.ladd, 1) := by decide +kernel
theorem dX4_withoutRod_54 : decode cX4_withoutRod 54 = .ok (.ldc2_w 97, 3) := by decide +kernel
theorem dX4_withoutRod_57 : decode cX4_withoutRod 57 = .ok (.lload 4, 2) := by decide +kernel
theorem dX4_withoutRod_59 : decode cX4_withoutRod 59 = .ok (.lmul, 1) := by decide +kernel
theorem dX4_withoutRod_60 : decode cX4_withoutRod 60 = .ok (.lload 6, 2) := by decide +kernel
theorem dX4_withoutRod_62 : decode cX4_withoutRod 62 = .ok (.lmul, 1) := by decide +kernel
theorem dX4_withoutRod_63 : decode cX4_withoutRod 63 = .ok (.aload_n 0, 1) := by decide +kernel
theorem dX4_withoutRod_64 : decode cX4_withoutRod 64 = .ok (.getfield 18, 3) := by decide +kernel
theorem dX4_withoutRod_67 : decode cX4_withoutRod 67 = .ok (.iload_n 1, 1) := by decide +kernel
theorem dX4_withoutRod_68 : decode cX4_withoutRod 68 = .ok (.laload, 1) := by decide +kernel
theorem dX4_withoutRod_69 : decode cX4_withoutRod 69 = .ok (.lmul, 1) := by decide +kernel
theorem dX4_withoutRod_70 : decode cX4_withoutRod 70 = .ok (.lsub, 1) := by decide +kernel
theorem dX4_withoutRod_71 : decode cX4_withoutRod 71 = .ok (.lreturn, 1) := by decide +kernel
theorem dX4_findBars_0 : decode cX4_findBars 0 = .ok (.iload_n 1, 1) := by decide +kernel
theorem dX4_findBars_1 : decode cX4_findBars 1 = .ok (.aload_n 0, 1) := by decide +kernel
theorem dX4_findBars_2 : decode cX4_findBars 2 = .ok (.getfield 34, 3) := by decide +kernel
theorem dX4_findBars_5 : decode cX4_findBars 5 = .ok (.if_icmp .ne 4, 3) := by decide +kernel
theorem dX4_findBars_8 : decode cX4_findBars 8 = .ok (.return_, 1) := by decide +kernel
theorem dX4_findBars_9 : decode cX4_findBars 9 = .ok (.aload_n 0, 1) := by decide +kernel
theorem dX4_findBars_10 : decode cX4_findBars 10 = .ok (.iload_n 1, 1) := by decide +kernel
theorem dX4_findBars_11 : decode cX4_findBars 11 = .ok (.putfield 34, 3) := by decide +kernel
theorem dX4_findBars_14 : decode cX4_findBars 14 = .ok (.aload_n 0, 1) := by decide +kernel
theorem dX4_findBars_15 : decode cX4_findBars 15 = .ok (.ldc2_w 99, 3) := by decide +kernel
theorem dX4_findBars_18 : decode cX4_findBars 18 = .ok (.putfield 50, 3) := by decide +kernel
theorem dX4_findBars_21 : decode cX4_findBars 21 = .ok (.iconst 1, 1) := by decide +kernel
theorem dX4_findBars_22 : decode cX4_findBars 22 = .ok (.istore_n 2, 1) := by decide +kernel
theorem dX4_findBars_23 : decode cX4_findBars 23 = .ok (.iload_n 2, 1) := by decide +kernel
theorem dX4_findBars_24 : decode cX4_findBars 24 = .ok (.bipush 18, 2) := by decide +kernel
theorem dX4_findBars_26 : decode cX4_findBars 26 = .ok (.if_icmp .gt 20, 3) := by decide +kernel
theorem dX4_findBars_29 : decode cX4_findBars 29 = .ok (.aload_n 0, 1) := by decide +kernel
theorem dX4_findBars_30 : decode cX4_findBars 30 = .ok (.iload_n 1, 1) := by decide +kernel
theorem dX4_findBars_31 : decode cX4_findBars 31 = .ok (.iload_n 2, 1) := by decide +kernel
theorem dX4_findBars_32 : decode cX4_findBars 32 = .ok (.invokevirtual 101, 3) := by decide +kernel
theorem dX4_findBars_35 : decode cX4_findBars 35 = .ok (.aload_n 0, 1) := by decide +kernel
theorem dX4_findBars_36 : decode cX4_findBars 36 = .ok (.iload_n 2, 1) := by decide +kernel
theorem dX4_findBars_37 : decode cX4_findBars 37 = .ok (.invokevirtual 105, 3) := by decide +kernel
theorem dX4_findBars_40 : decode cX4_findBars 40 = .ok (.iinc 2 1, 3) := by decide +kernel
theorem dX4_findBars_43 : decode cX4_findBars 43 = .ok (.goto (-20), 3) := by decide +kernel
theorem dX4_findBars_46 : decode cX4_findBars 46 = .ok (.return_, 1) := by decide +kernel
theorem dX4_findBounds_0 : decode cX4_findBounds 0 = .ok (.iconst 1, 1) := by decide +kernel
theorem dX4_findBounds_1 : decode cX4_findBounds 1 = .ok (.istore_n 3, 1) := by decide +kernel
theorem dX4_findBounds_2 : decode cX4_findBounds 2 = .ok (.iload_n 3, 1) := by decide +kernel
theorem dX4_findBounds_3 : decode cX4_findBounds 3 = .ok (.bipush 18, 2) := by decide +kernel
theorem dX4_findBounds_5 : decode cX4_findBounds 5 = .ok (.if_icmp .gt 128, 3) := by decide +kernel
theorem dX4_findBounds_8 : decode cX4_findBounds 8 = .ok (.iconst 0, 1) := by decide +kernel
theorem dX4_findBounds_9 : decode cX4_findBounds 9 = .ok (.istore 4, 2) := by decide +kernel
theorem dX4_findBounds_11 : decode cX4_findBounds 11 = .ok (.iload 4, 2) := by decide +kernel
theorem dX4_findBounds_13 : decode cX4_findBounds 13 = .ok (.aload_n 0, 1) := by decide +kernel
theorem dX4_findBounds_14 : decode cX4_findBounds 14 = .ok (.getfield 30, 3) := by decide +kernel
theorem dX4_findBounds_17 : decode cX4_findBounds 17 = .ok (.if_icmp .ge 110, 3) := by decide +kernel
theorem dX4_findBounds_20 : decode cX4_findBounds 20 = .ok (.aload_n 0, 1) := by decide +kernel
theorem dX4_findBounds_21 : decode cX4_findBounds 21 = .ok (.getfield 21, 3) := by decide +kernel
theorem dX4_findBounds_24 : decode cX4_findBounds 24 = .ok (.iload 4, 2) := by decide +kernel
theorem dX4_findBounds_26 : decode cX4_findBounds 26 = .ok (.laload, 1) := by decide +kernel
theorem dX4_findBounds_27 : decode cX4_findBounds 27 = .ok (.lconst 0, 1) := by decide +kernel
theorem dX4_findBounds_28 : decode cX4_findBounds 28 = .ok (.lcmp, 1) := by decide +kernel
theorem dX4_findBounds_29 : decode cX4_findBounds 29 = .ok (.ifCond .le 18, 3) := by decide +kernel
theorem dX4_findBounds_32 : decode cX4_findBounds 32 = .ok (.aload_n 0, 1) := by decide +kernel
theorem dX4_findBounds_33 : decode cX4_findBounds 33 = .ok (.getfield 46, 3) := by decide +kernel
theorem dX4_findBounds_36 : decode cX4_findBounds 36 = .ok (.aload_n 0, 1) := by decide +kernel
theorem dX4_findBounds_37 : decode cX4_findBounds 37 = .ok (.getfield 21, 3) := by decide +kernel
theorem dX4_findBounds_40 : decode cX4_findBounds 40 = .ok (.iload 4, 2) := by decide +kernel
theorem dX4_findBounds_42 : decode cX4_findBounds 42 = .ok (.laload, 1) := by decide +kernel
theorem dX4_findBounds_43 : decode cX4_findBounds 43 = .ok (.ldiv, 1) := by decide +kernel
theorem dX4_findBounds_44 : decode cX4_findBounds 44 = .ok (.goto 4, 3) := by decide +kernel
theorem dX4_findBounds_47 : decode cX4_findBounds 47 = .ok (.lconst 0, 1) := by decide +kernel
theorem dX4_findBounds_48 : decode cX4_findBounds 48 = .ok (.lstore 5, 2) := by decide +kernel
theorem dX4_findBounds_50 : decode cX4_findBounds 50 = .ok (.aload_n 0, 1) := by decide +kernel
theorem dX4_findBounds_51 : decode cX4_findBounds 51 = .ok (.iload 4, 2) := by decide +kernel
theorem dX4_findBounds_53 : decode cX4_findBounds 53 = .ok (.iload_n 1, 1) := by decide +kernel
theorem dX4_findBounds_54 : decode cX4_findBounds 54 = .ok (.i2l, 1) := by decide +kernel
theorem dX4_findBounds_55 : decode cX4_findBounds 55 = .ok (.iload_n 2, 1) := by decide +kernel
theorem dX4_findBounds_56 : decode cX4_findBounds 56 = .ok (.i2l, 1) := by decide +kernel
theorem dX4_findBounds_57 : decode cX4_findBounds 57 = .ok (.iload_n 3, 1) := by decide +kernel
theorem dX4_findBounds_58 : decode cX4_findBounds 58 = .ok (.i2l, 1) := by decide +kernel
theorem dX4_findBounds_59 : decode cX4_findBounds 59 = .ok (.invokevirtual 90, 3) := by decide +kernel
theorem dX4_findBounds_62 : decode cX4_findBounds 62 = .ok (.lload 5, 2) := by decide +kernel
theorem dX4_findBounds_64 : decode cX4_findBounds 64 = .ok (.lmul, 1) := by decide +kernel
theorem dX4_findBounds_65 : decode cX4_findBounds 65 = .ok (.lstore 7, 2) := by decide +kernel
theorem dX4_findBounds_67 : decode cX4_findBounds 67 = .ok (.aload_n 0, 1) := by decide +kernel
theorem dX4_findBounds_68 : decode cX4_findBounds 68 = .ok (.getfield 24, 3) := by decide +kernel
theorem dX4_findBounds_71 : decode cX4_findBounds 71 = .ok (.iload_n 3, 1) := by decide +kernel
theorem dX4_findBounds_72 : decode cX4_findBounds 72 = .ok (.iload 4, 2) := by decide +kernel
theorem dX4_findBounds_74 : decode cX4_findBounds 74 = .ok (.ifCond .ne 8, 3) := by decide +kernel
theorem dX4_findBounds_77 : decode cX4_findBounds 77 = .ok (.lload 7, 2) := by decide +kernel
theorem dX4_findBounds_79 : decode cX4_findBounds 79 = .ok (.goto 14, 3) := by decide +kernel
theorem dX4_findBounds_82 : decode cX4_findBounds 82 = .ok (.aload_n 0, 1) := by decide +kernel
theorem dX4_findBounds_83 : decode cX4_findBounds 83 = .ok (.getfield 24, 3) := by decide +kernel
theorem dX4_findBounds_86 : decode cX4_findBounds 86 = .ok (.iload_n 3, 1) := by decide +kernel
theorem dX4_findBounds_87 : decode cX4_findBounds 87 = .ok (.laload, 1) := by decide +kernel
theorem dX4_findBounds_88 : decode cX4_findBounds 88 = .ok (.lload 7, 2) := by decide +kernel
theorem dX4_findBounds_90 : decode cX4_findBounds 90 = .ok (.invokestatic 109, 3) := by decide +kernel
theorem dX4_findBounds_93 : decode cX4_findBounds 93 = .ok (.lastore, 1) := by decide +kernel
theorem dX4_findBounds_94 : decode cX4_findBounds 94 = .ok (.aload_n 0, 1) := by decide +kernel
theorem dX4_findBounds_95 : decode cX4_findBounds 95 = .ok (.getfield 27, 3) := by decide +kernel
theorem dX4_findBounds_98 : decode cX4_findBounds 98 = .ok (.iload_n 3, 1) := by decide +kernel
theorem dX4_findBounds_99 : decode cX4_findBounds 99 = .ok (.iload 4, 2) := by decide +kernel
theorem dX4_findBounds_101 : decode cX4_findBounds 101 = .ok (.ifCond .ne 8, 3) := by decide +kernel
theorem dX4_findBounds_104 : decode cX4_findBounds 104 = .ok (.lload 7, 2) := by decide +kernel
theorem dX4_findBounds_106 : decode cX4_findBounds 106 = .ok (.goto 14, 3) := by decide +kernel
theorem dX4_findBounds_109 : decode cX4_findBounds 109 = .ok (.aload_n 0, 1) := by decide +kernel
theorem dX4_findBounds_110 : decode cX4_findBounds 110 = .ok (.getfield 27, 3) := by decide +kernel
theorem dX4_findBounds_113 : decode cX4_findBounds 113 = .ok (.iload_n 3, 1) := by decide +kernel
theorem dX4_findBounds_114 : decode cX4_findBounds 114 = .ok (.laload, 1) := by decide +kernel
theorem dX4_findBounds_115 : decode cX4_findBounds 115 = .ok (.lload 7, 2) := by decide +kernel
theorem dX4_findBounds_117 : decode cX4_findBounds 117 = .ok (.invokestatic 112, 3) := by decide +kernel
theorem dX4_findBounds_120 : decode cX4_findBounds 120 = .ok (.lastore, 1) := by decide +kernel
theorem dX4_findBounds_121 : decode cX4_findBounds 121 = .ok (.iinc 4 1, 3) := by decide +kernel
theorem dX4_findBounds_124 : decode cX4_findBounds 124 = .ok (.goto (-113), 3) := by decide +kernel
theorem dX4_findBounds_127 : decode cX4_findBounds 127 = .ok (.iinc 3 1, 3) := by decide +kernel
theorem dX4_findBounds_130 : decode cX4_findBounds 130 = .ok (.goto (-128), 3) := by decide +kernel
theorem dX4_findBounds_133 : decode cX4_findBounds 133 = .ok (.return_, 1) := by decide +kernel
theorem dX4_findRodAndArm_0 : decode cX4_findRodAndArm 0 = .ok (.iconst 1, 1) := by decide +kernel
theorem dX4_findRodAndArm_1 : decode cX4_findRodAndArm 1 = .ok (.istore_n 2, 1) := by decide +kernel
theorem dX4_findRodAndArm_2 : decode cX4_findRodAndArm 2 = .ok (.iload_n 2, 1) := by decide +kernel
theorem dX4_findRodAndArm_3 : decode cX4_findRodAndArm 3 = .ok (.bipush 18, 2) := by decide +kernel
theorem dX4_findRodAndArm_5 : decode cX4_findRodAndArm 5 = .ok (.if_icmp .gt 101, 3) := by decide +kernel
theorem dX4_findRodAndArm_8 : decode cX4_findRodAndArm 8 = .ok (.iload_n 2, 1) := by decide +kernel
theorem dX4_findRodAndArm_9 : decode cX4_findRodAndArm 9 = .ok (.iload_n 2, 1) := by decide +kernel
theorem dX4_findRodAndArm_10 : decode cX4_findRodAndArm 10 = .ok (.imul, 1) := by decide +kernel
theorem dX4_findRodAndArm_11 : decode cX4_findRodAndArm 11 = .ok (.i2l, 1) := by decide +kernel
theorem dX4_findRodAndArm_12 : decode cX4_findRodAndArm 12 = .ok (.aload_n 0, 1) := by decide +kernel
theorem dX4_findRodAndArm_13 : decode cX4_findRodAndArm 13 = .ok (.getfield 46, 3) := by decide +kernel
theorem dX4_findRodAndArm_16 : decode cX4_findRodAndArm 16 = .ok (.lmul, 1) := by decide +kernel
theorem dX4_findRodAndArm_17 : decode cX4_findRodAndArm 17 = .ok (.lstore_n 3, 1) := by decide +kernel
theorem dX4_findRodAndArm_18 : decode cX4_findRodAndArm 18 = .ok (.iconst 1, 1) := by decide +kernel
theorem dX4_findRodAndArm_19 : decode cX4_findRodAndArm 19 = .ok (.istore 5, 2) := by decide +kernel
theorem dX4_findRodAndArm_21 : decode cX4_findRodAndArm 21 = .ok (.iload 5, 2) := by decide +kernel
theorem dX4_findRodAndArm_23 : decode cX4_findRodAndArm 23 = .ok (.bipush 18, 2) := by decide +kernel
theorem dX4_findRodAndArm_25 : decode cX4_findRodAndArm 25 = .ok (.if_icmp .gt 75, 3) := by decide +kernel
theorem dX4_findRodAndArm_28 : decode cX4_findRodAndArm 28 = .ok (.aload_n 0, 1) := by decide +kernel
theorem dX4_findRodAndArm_29 : decode cX4_findRodAndArm 29 = .ok (.getfield 27, 3) := by decide +kernel
theorem dX4_findRodAndArm_32 : decode cX4_findRodAndArm 32 = .ok (.iload 5, 2) := by decide +kernel
theorem dX4_findRodAndArm_34 : decode cX4_findRodAndArm 34 = .ok (.laload, 1) := by decide +kernel
theorem dX4_findRodAndArm_35 : decode cX4_findRodAndArm 35 = .ok (.lload_n 3, 1) := by decide +kernel
theorem dX4_findRodAndArm_36 : decode cX4_findRodAndArm 36 = .ok (.lsub, 1) := by decide +kernel
theorem dX4_findRodAndArm_37 : decode cX4_findRodAndArm 37 = .ok (.lload_n 3, 1) := by decide +kernel
theorem dX4_findRodAndArm_38 : decode cX4_findRodAndArm 38 = .ok (.aload_n 0, 1) := by decide +kernel
theorem dX4_findRodAndArm_39 : decode cX4_findRodAndArm 39 = .ok (.getfield 24, 3) := by decide +kernel
theorem dX4_findRodAndArm_42 : decode cX4_findRodAndArm 42 = .ok (.iload 5, 2) := by decide +kernel
theorem dX4_findRodAndArm_44 : decode cX4_findRodAndArm 44 = .ok (.laload, 1) := by decide +kernel
theorem dX4_findRodAndArm_45 : decode cX4_findRodAndArm 45 = .ok (.lsub, 1) := by decide +kernel
theorem dX4_findRodAndArm_46 : decode cX4_findRodAndArm 46 = .ok (.invokestatic 112, 3) := by decide +kernel
theorem dX4_findRodAndArm_49 : decode cX4_findRodAndArm 49 = .ok (.lstore 6, 2) := by decide +kernel
theorem dX4_findRodAndArm_51 : decode cX4_findRodAndArm 51 = .ok (.aload_n 0, 1) := by decide +kernel
theorem dX4_findRodAndArm_52 : decode cX4_findRodAndArm 52 = .ok (.getfield 50, 3) := by decide +kernel
theorem dX4_findRodAndArm_55 : decode cX4_findRodAndArm 55 = .ok (.ldc2_w 99, 3) := by decide +kernel
theorem dX4_findRodAndArm_58 : decode cX4_findRodAndArm 58 = .ok (.lcmp, 1) := by decide +kernel
theorem dX4_findRodAndArm_59 : decode cX4_findRodAndArm 59 = .ok (.ifCond .eq 13, 3) := by decide +kernel
theorem dX4_findRodAndArm_62 : decode cX4_findRodAndArm 62 = .ok (.lload 6, 2) := by decide +kernel
theorem dX4_findRodAndArm_64 : decode cX4_findRodAndArm 64 = .ok (.aload_n 0, 1) := by decide +kernel
theorem dX4_findRodAndArm_65 : decode cX4_findRodAndArm 65 = .ok (.getfield 50, 3) := by decide +kernel
theorem dX4_findRodAndArm_68 : decode cX4_findRodAndArm 68 = .ok (.lcmp, 1) := by decide +kernel
theorem dX4_findRodAndArm_69 : decode cX4_findRodAndArm 69 = .ok (.ifCond .ge 25, 3) := by decide +kernel
theorem dX4_findRodAndArm_72 : decode cX4_findRodAndArm 72 = .ok (.aload_n 0, 1) := by decide +kernel
theorem dX4_findRodAndArm_73 : decode cX4_findRodAndArm 73 = .ok (.lload 6, 2) := by decide +kernel
theorem dX4_findRodAndArm_75 : decode cX4_findRodAndArm 75 = .ok (.putfield 50, 3) := by decide +kernel
theorem dX4_findRodAndArm_78 : decode cX4_findRodAndArm 78 = .ok (.aload_n 0, 1) := by decide +kernel
theorem dX4_findRodAndArm_79 : decode cX4_findRodAndArm 79 = .ok (.iload_n 1, 1) := by decide +kernel
theorem dX4_findRodAndArm_80 : decode cX4_findRodAndArm 80 = .ok (.putfield 37, 3) := by decide +kernel
theorem dX4_findRodAndArm_83 : decode cX4_findRodAndArm 83 = .ok (.aload_n 0, 1) := by decide +kernel
theorem dX4_findRodAndArm_84 : decode cX4_findRodAndArm 84 = .ok (.iload_n 2, 1) := by decide +kernel
theorem dX4_findRodAndArm_85 : decode cX4_findRodAndArm 85 = .ok (.putfield 40, 3) := by decide +kernel
theorem dX4_findRodAndArm_88 : decode cX4_findRodAndArm 88 = .ok (.aload_n 0, 1) := by decide +kernel
theorem dX4_findRodAndArm_89 : decode cX4_findRodAndArm 89 = .ok (.iload 5, 2) := by decide +kernel
theorem dX4_findRodAndArm_91 : decode cX4_findRodAndArm 91 = .ok (.putfield 43, 3) := by decide +kernel
theorem dX4_findRodAndArm_94 : decode cX4_findRodAndArm 94 = .ok (.iinc 5 1, 3) := by decide +kernel
theorem dX4_findRodAndArm_97 : decode cX4_findRodAndArm 97 = .ok (.goto (-76), 3) := by decide +kernel
theorem dX4_findRodAndArm_100 : decode cX4_findRodAndArm 100 = .ok (.iinc 2 1, 3) := by decide +kernel
theorem dX4_findRodAndArm_103 : decode cX4_findRodAndArm 103 = .ok (.goto (-101), 3) := by decide +kernel
theorem dX4_findRodAndArm_106 : decode cX4_findRodAndArm 106 = .ok (.return_, 1) := by decide +kernel
theorem dX4_foundBar_0 : decode cX4_foundBar 0 = .ok (.iload_n 1, 1) := by decide +kernel
theorem dX4_foundBar_1 : decode cX4_foundBar 1 = .ok (.ifCond .ne 8, 3) := by decide +kernel
theorem dX4_foundBar_4 : decode cX4_foundBar 4 = .ok (.aload_n 0, 1) := by decide +kernel
theorem dX4_foundBar_5 : decode cX4_foundBar 5 = .ok (.getfield 37, 3) := by decide +kernel
theorem dX4_foundBar_8 : decode cX4_foundBar 8 = .ok (.ireturn, 1) := by decide +kernel
theorem dX4_foundBar_9 : decode cX4_foundBar 9 = .ok (.iload_n 1, 1) := by decide +kernel
theorem dX4_foundBar_10 : decode cX4_foundBar 10 = .ok (.iconst 1, 1) := by decide +kernel
theorem dX4_foundBar_11 : decode cX4_foundBar 11 = .ok (.if_icmp .ne 10, 3) := by decide +kernel
theorem dX4_foundBar_14 : decode cX4_foundBar 14 = .ok (.aload_n 0, 1) := by decide +kernel
theorem dX4_foundBar_15 : decode cX4_foundBar 15 = .ok (.getfield 40, 3) := by decide +kernel
theorem dX4_foundBar_18 : decode cX4_foundBar 18 = .ok (.goto 7, 3) := by decide +kernel
theorem dX4_foundBar_21 : decode cX4_foundBar 21 = .ok (.aload_n 0, 1) := by decide +kernel
theorem dX4_foundBar_22 : decode cX4_foundBar 22 = .ok (.getfield 43, 3) := by decide +kernel
theorem dX4_foundBar_25 : decode cX4_foundBar 25 = .ok (.ireturn, 1) := by decide +kernel
theorem dX4_foundUpper_0 : decode cX4_foundUpper 0 = .ok (.aload_n 0, 1) := by decide +kernel
theorem dX4_foundUpper_1 : decode cX4_foundUpper 1 = .ok (.getfield 50, 3) := by decide +kernel
theorem dX4_foundUpper_4 : decode cX4_foundUpper 4 = .ok (.lreturn, 1) := by decide +kernel
theorem dX4_foundLower_0 : decode cX4_foundLower 0 = .ok (.aload_n 0, 1) := by decide +kernel
theorem dX4_foundLower_1 : decode cX4_foundLower 1 = .ok (.getfield 46, 3) := by decide +kernel
theorem dX4_foundLower_4 : decode cX4_foundLower 4 = .ok (.lreturn, 1) := by decide +kernel
theorem dX4_determinant_0 : decode cX4_determinant 0 = .ok (.aload_n 0, 1) := by decide +kernel
theorem dX4_determinant_1 : decode cX4_determinant 1 = .ok (.iconst 0, 1) := by decide +kernel
theorem dX4_determinant_2 : decode cX4_determinant 2 = .ok (.iconst 0, 1) := by decide +kernel
theorem dX4_determinant_3 : decode cX4_determinant 3 = .ok (.iload_n 1, 1) := by decide +kernel
theorem dX4_determinant_4 : decode cX4_determinant 4 = .ok (.invokevirtual 115, 3) := by decide +kernel
theorem dX4_determinant_7 : decode cX4_determinant 7 = .ok (.aload_n 0, 1) := by decide +kernel
theorem dX4_determinant_8 : decode cX4_determinant 8 = .ok (.iconst 1, 1) := by decide +kernel
theorem dX4_determinant_9 : decode cX4_determinant 9 = .ok (.iconst 2, 1) := by decide +kernel
theorem dX4_determinant_10 : decode cX4_determinant 10 = .ok (.iload_n 1, 1) := by decide +kernel
theorem dX4_determinant_11 : decode cX4_determinant 11 = .ok (.invokevirtual 119, 3) := by decide +kernel
theorem dX4_determinant_14 : decode cX4_determinant 14 = .ok (.lmul, 1) := by decide +kernel
theorem dX4_determinant_15 : decode cX4_determinant 15 = .ok (.aload_n 0, 1) := by decide +kernel
theorem dX4_determinant_16 : decode cX4_determinant 16 = .ok (.iconst 0, 1) := by decide +kernel
theorem dX4_determinant_17 : decode cX4_determinant 17 = .ok (.iconst 1, 1) := by decide +kernel
theorem dX4_determinant_18 : decode cX4_determinant 18 = .ok (.iload_n 1, 1) := by decide +kernel
theorem dX4_determinant_19 : decode cX4_determinant 19 = .ok (.invokevirtual 115, 3) := by decide +kernel
theorem dX4_determinant_22 : decode cX4_determinant 22 = .ok (.aload_n 0, 1) := by decide +kernel
theorem dX4_determinant_23 : decode cX4_determinant 23 = .ok (.iconst 0, 1) := by decide +kernel
theorem dX4_determinant_24 : decode cX4_determinant 24 = .ok (.iconst 2, 1) := by decide +kernel
theorem dX4_determinant_25 : decode cX4_determinant 25 = .ok (.iload_n 1, 1) := by decide +kernel
theorem dX4_determinant_26 : decode cX4_determinant 26 = .ok (.invokevirtual 119, 3) := by decide +kernel
theorem dX4_determinant_29 : decode cX4_determinant 29 = .ok (.lmul, 1) := by decide +kernel
theorem dX4_determinant_30 : decode cX4_determinant 30 = .ok (.lsub, 1) := by decide +kernel
theorem dX4_determinant_31 : decode cX4_determinant 31 = .ok (.aload_n 0, 1) := by decide +kernel
theorem dX4_determinant_32 : decode cX4_determinant 32 = .ok (.iconst 0, 1) := by decide +kernel
theorem dX4_determinant_33 : decode cX4_determinant 33 = .ok (.iconst 2, 1) := by decide +kernel
theorem dX4_determinant_34 : decode cX4_determinant 34 = .ok (.iload_n 1, 1) := by decide +kernel
theorem dX4_determinant_35 : decode cX4_determinant 35 = .ok (.invokevirtual 115, 3) := by decide +kernel
theorem dX4_determinant_38 : decode cX4_determinant 38 = .ok (.aload_n 0, 1) := by decide +kernel
theorem dX4_determinant_39 : decode cX4_determinant 39 = .ok (.iconst 0, 1) := by decide +kernel
theorem dX4_determinant_40 : decode cX4_determinant 40 = .ok (.iconst 1, 1) := by decide +kernel
theorem dX4_determinant_41 : decode cX4_determinant 41 = .ok (.iload_n 1, 1) := by decide +kernel
theorem dX4_determinant_42 : decode cX4_determinant 42 = .ok (.invokevirtual 119, 3) := by decide +kernel
theorem dX4_determinant_45 : decode cX4_determinant 45 = .ok (.lmul, 1) := by decide +kernel
theorem dX4_determinant_46 : decode cX4_determinant 46 = .ok (.ladd, 1) := by decide +kernel
theorem dX4_determinant_47 : decode cX4_determinant 47 = .ok (.lreturn, 1) := by decide +kernel
theorem dX4_minor_0 : decode cX4_minor 0 = .ok (.aload_n 0, 1) := by decide +kernel
theorem dX4_minor_1 : decode cX4_minor 1 = .ok (.iconst 1, 1) := by decide +kernel
theorem dX4_minor_2 : decode cX4_minor 2 = .ok (.iload_n 1, 1) := by decide +kernel
theorem dX4_minor_3 : decode cX4_minor 3 = .ok (.iload_n 3, 1) := by decide +kernel
theorem dX4_minor_4 : decode cX4_minor 4 = .ok (.invokevirtual 115, 3) := by decide +kernel
theorem dX4_minor_7 : decode cX4_minor 7 = .ok (.aload_n 0, 1) := by decide +kernel
theorem dX4_minor_8 : decode cX4_minor 8 = .ok (.iconst 2, 1) := by decide +kernel
theorem dX4_minor_9 : decode cX4_minor 9 = .ok (.iload_n 2, 1) := by decide +kernel
theorem dX4_minor_10 : decode cX4_minor 10 = .ok (.iload_n 3, 1) := by decide +kernel
theorem dX4_minor_11 : decode cX4_minor 11 = .ok (.invokevirtual 115, 3) := by decide +kernel
theorem dX4_minor_14 : decode cX4_minor 14 = .ok (.lmul, 1) := by decide +kernel
theorem dX4_minor_15 : decode cX4_minor 15 = .ok (.aload_n 0, 1) := by decide +kernel
theorem dX4_minor_16 : decode cX4_minor 16 = .ok (.iconst 1, 1) := by decide +kernel
theorem dX4_minor_17 : decode cX4_minor 17 = .ok (.iload_n 2, 1) := by decide +kernel
theorem dX4_minor_18 : decode cX4_minor 18 = .ok (.iload_n 3, 1) := by decide +kernel
theorem dX4_minor_19 : decode cX4_minor 19 = .ok (.invokevirtual 115, 3) := by decide +kernel
theorem dX4_minor_22 : decode cX4_minor 22 = .ok (.aload_n 0, 1) := by decide +kernel
theorem dX4_minor_23 : decode cX4_minor 23 = .ok (.iconst 2, 1) := by decide +kernel
theorem dX4_minor_24 : decode cX4_minor 24 = .ok (.iload_n 1, 1) := by decide +kernel
theorem dX4_minor_25 : decode cX4_minor 25 = .ok (.iload_n 3, 1) := by decide +kernel
theorem dX4_minor_26 : decode cX4_minor 26 = .ok (.invokevirtual 115, 3) := by decide +kernel
theorem dX4_minor_29 : decode cX4_minor 29 = .ok (.lmul, 1) := by decide +kernel
theorem dX4_minor_30 : decode cX4_minor 30 = .ok (.lsub, 1) := by decide +kernel
theorem dX4_minor_31 : decode cX4_minor 31 = .ok (.lreturn, 1) := by decide +kernel
theorem dX4_cell_0 : decode cX4_cell 0 = .ok (.iload_n 2, 1) := by decide +kernel
theorem dX4_cell_1 : decode cX4_cell 1 = .ok (.iload_n 3, 1) := by decide +kernel
theorem dX4_cell_2 : decode cX4_cell 2 = .ok (.if_icmp .ne 10, 3) := by decide +kernel
theorem dX4_cell_5 : decode cX4_cell 5 = .ok (.aload_n 0, 1) := by decide +kernel
theorem dX4_cell_6 : decode cX4_cell 6 = .ok (.getfield 18, 3) := by decide +kernel
theorem dX4_cell_9 : decode cX4_cell 9 = .ok (.iload_n 1, 1) := by decide +kernel
theorem dX4_cell_10 : decode cX4_cell 10 = .ok (.laload, 1) := by decide +kernel
theorem dX4_cell_11 : decode cX4_cell 11 = .ok (.lreturn, 1) := by decide +kernel
theorem dX4_cell_12 : decode cX4_cell 12 = .ok (.iload_n 2, 1) := by decide +kernel
theorem dX4_cell_13 : decode cX4_cell 13 = .ok (.ifCond .ne 10, 3) := by decide +kernel
theorem dX4_cell_16 : decode cX4_cell 16 = .ok (.aload_n 0, 1) := by decide +kernel
theorem dX4_cell_17 : decode cX4_cell 17 = .ok (.getfield 15, 3) := by decide +kernel
theorem dX4_cell_20 : decode cX4_cell 20 = .ok (.iload_n 1, 1) := by decide +kernel
theorem dX4_cell_21 : decode cX4_cell 21 = .ok (.laload, 1) := by decide +kernel
theorem dX4_cell_22 : decode cX4_cell 22 = .ok (.lreturn, 1) := by decide +kernel
theorem dX4_cell_23 : decode cX4_cell 23 = .ok (.iload_n 2, 1) := by decide +kernel
theorem dX4_cell_24 : decode cX4_cell 24 = .ok (.iconst 1, 1) := by decide +kernel
theorem dX4_cell_25 : decode cX4_cell 25 = .ok (.if_icmp .ne 13, 3) := by decide +kernel
theorem dX4_cell_28 : decode cX4_cell 28 = .ok (.aload_n 0, 1) := by decide +kernel
theorem dX4_cell_29 : decode cX4_cell 29 = .ok (.getfield 11, 3) := by decide +kernel
theorem dX4_cell_32 : decode cX4_cell 32 = .ok (.iload_n 1, 1) := by decide +kernel
theorem dX4_cell_33 : decode cX4_cell 33 = .ok (.laload, 1) := by decide +kernel
theorem dX4_cell_34 : decode cX4_cell 34 = .ok (.lneg, 1) := by decide +kernel
theorem dX4_cell_35 : decode cX4_cell 35 = .ok (.goto 9, 3) := by decide +kernel
theorem dX4_cell_38 : decode cX4_cell 38 = .ok (.aload_n 0, 1) := by decide +kernel
theorem dX4_cell_39 : decode cX4_cell 39 = .ok (.getfield 21, 3) := by decide +kernel
theorem dX4_cell_42 : decode cX4_cell 42 = .ok (.iload_n 1, 1) := by decide +kernel
theorem dX4_cell_43 : decode cX4_cell 43 = .ok (.laload, 1) := by decide +kernel
theorem dX4_cell_44 : decode cX4_cell 44 = .ok (.lreturn, 1) := by decide +kernel
theorem dX5_init_0 : decode cX5_init 0 = .ok (.aload_n 0, 1) := by decide +kernel
theorem dX5_init_1 : decode cX5_init 1 = .ok (.invokespecial 1, 3) := by decide +kernel
theorem dX5_init_4 : decode cX5_init 4 = .ok (.aload_n 0, 1) := by decide +kernel
theorem dX5_init_5 : decode cX5_init 5 = .ok (.lconst 1, 1) := by decide +kernel
theorem dX5_init_6 : decode cX5_init 6 = .ok (.putfield 7, 3) := by decide +kernel
theorem dX5_init_9 : decode cX5_init 9 = .ok (.aload_n 0, 1) := by decide +kernel
theorem dX5_init_10 : decode cX5_init 10 = .ok (.lconst 0, 1) := by decide +kernel
theorem dX5_init_11 : decode cX5_init 11 = .ok (.putfield 13, 3) := by decide +kernel
theorem dX5_init_14 : decode cX5_init 14 = .ok (.aload_n 0, 1) := by decide +kernel
theorem dX5_init_15 : decode cX5_init 15 = .ok (.lconst 0, 1) := by decide +kernel
theorem dX5_init_16 : decode cX5_init 16 = .ok (.putfield 16, 3) := by decide +kernel
theorem dX5_init_19 : decode cX5_init 19 = .ok (.aload_n 0, 1) := by decide +kernel
theorem dX5_init_20 : decode cX5_init 20 = .ok (.lconst 0, 1) := by decide +kernel
theorem dX5_init_21 : decode cX5_init 21 = .ok (.putfield 19, 3) := by decide +kernel
theorem dX5_init_24 : decode cX5_init 24 = .ok (.aload_n 0, 1) := by decide +kernel
theorem dX5_init_25 : decode cX5_init 25 = .ok (.lconst 1, 1) := by decide +kernel
theorem dX5_init_26 : decode cX5_init 26 = .ok (.putfield 22, 3) := by decide +kernel
theorem dX5_init_29 : decode cX5_init 29 = .ok (.aload_n 0, 1) := by decide +kernel
theorem dX5_init_30 : decode cX5_init 30 = .ok (.lconst 1, 1) := by decide +kernel
theorem dX5_init_31 : decode cX5_init 31 = .ok (.putfield 25, 3) := by decide +kernel
theorem dX5_init_34 : decode cX5_init 34 = .ok (.aload_n 0, 1) := by decide +kernel
theorem dX5_init_35 : decode cX5_init 35 = .ok (.lconst 1, 1) := by decide +kernel
theorem dX5_init_36 : decode cX5_init 36 = .ok (.putfield 28, 3) := by decide +kernel
theorem dX5_init_39 : decode cX5_init 39 = .ok (.aload_n 0, 1) := by decide +kernel
theorem dX5_init_40 : decode cX5_init 40 = .ok (.lconst 1, 1) := by decide +kernel
theorem dX5_init_41 : decode cX5_init 41 = .ok (.putfield 31, 3) := by decide +kernel
theorem dX5_init_44 : decode cX5_init 44 = .ok (.aload_n 0, 1) := by decide +kernel
theorem dX5_init_45 : decode cX5_init 45 = .ok (.lconst 1, 1) := by decide +kernel
theorem dX5_init_46 : decode cX5_init 46 = .ok (.putfield 34, 3) := by decide +kernel
theorem dX5_init_49 : decode cX5_init 49 = .ok (.aload_n 0, 1) := by decide +kernel
theorem dX5_init_50 : decode cX5_init 50 = .ok (.lconst 0, 1) := by decide +kernel
theorem dX5_init_51 : decode cX5_init 51 = .ok (.putfield 37, 3) := by decide +kernel
theorem dX5_init_54 : decode cX5_init 54 = .ok (.aload_n 0, 1) := by decide +kernel
theorem dX5_init_55 : decode cX5_init 55 = .ok (.lconst 0, 1) := by decide +kernel
theorem dX5_init_56 : decode cX5_init 56 = .ok (.putfield 40, 3) := by decide +kernel
theorem dX5_init_59 : decode cX5_init 59 = .ok (.aload_n 0, 1) := by decide +kernel
theorem dX5_init_60 : decode cX5_init 60 = .ok (.lconst 0, 1) := by decide +kernel
theorem dX5_init_61 : decode cX5_init 61 = .ok (.putfield 43, 3) := by decide +kernel
theorem dX5_init_64 : decode cX5_init 64 = .ok (.aload_n 0, 1) := by decide +kernel
theorem dX5_init_65 : decode cX5_init 65 = .ok (.lconst 0, 1) := by decide +kernel
theorem dX5_init_66 : decode cX5_init 66 = .ok (.putfield 46, 3) := by decide +kernel
theorem dX5_init_69 : decode cX5_init 69 = .ok (.aload_n 0, 1) := by decide +kernel
theorem dX5_init_70 : decode cX5_init 70 = .ok (.lconst 0, 1) := by decide +kernel
theorem dX5_init_71 : decode cX5_init 71 = .ok (.putfield 49, 3) := by decide +kernel
theorem dX5_init_74 : decode cX5_init 74 = .ok (.aload_n 0, 1) := by decide +kernel
theorem dX5_init_75 : decode cX5_init 75 = .ok (.lconst 0, 1) := by decide +kernel
theorem dX5_init_76 : decode cX5_init 76 = .ok (.putfield 52, 3) := by decide +kernel
theorem dX5_init_79 : decode cX5_init 79 = .ok (.aload_n 0, 1) := by decide +kernel
theorem dX5_init_80 : decode cX5_init 80 = .ok (.lconst 0, 1) := by decide +kernel
theorem dX5_init_81 : decode cX5_init 81 = .ok (.putfield 55, 3) := by decide +kernel
theorem dX5_init_84 : decode cX5_init 84 = .ok (.return_, 1) := by decide +kernel
theorem dX5_set_0 : decode cX5_set 0 = .ok (.aload_n 0, 1) := by decide +kernel
theorem dX5_set_1 : decode cX5_set 1 = .ok (.aload_n 1, 1) := by decide +kernel
theorem dX5_set_2 : decode cX5_set 2 = .ok (.getfield 58, 3) := by decide +kernel
theorem dX5_set_5 : decode cX5_set 5 = .ok (.i2l, 1) := by decide +kernel
theorem dX5_set_6 : decode cX5_set 6 = .ok (.putfield 22, 3) := by decide +kernel
theorem dX5_set_9 : decode cX5_set 9 = .ok (.aload_n 0, 1) := by decide +kernel
theorem dX5_set_10 : decode cX5_set 10 = .ok (.aload_n 1, 1) := by decide +kernel
theorem dX5_set_11 : decode cX5_set 11 = .ok (.getfield 63, 3) := by decide +kernel
theorem dX5_set_14 : decode cX5_set 14 = .ok (.i2l, 1) := by decide +kernel
theorem dX5_set_15 : decode cX5_set 15 = .ok (.putfield 25, 3) := by decide +kernel
theorem dX5_set_18 : decode cX5_set 18 = .ok (.aload_n 0, 1) := by decide +kernel
theorem dX5_set_19 : decode cX5_set 19 = .ok (.aload_n 1, 1) := by decide +kernel
theorem dX5_set_20 : decode cX5_set 20 = .ok (.getfield 65, 3) := by decide +kernel
theorem dX5_set_23 : decode cX5_set 23 = .ok (.i2l, 1) := by decide +kernel
theorem dX5_set_24 : decode cX5_set 24 = .ok (.putfield 28, 3) := by decide +kernel
theorem dX5_set_27 : decode cX5_set 27 = .ok (.aload_n 0, 1) := by decide +kernel
theorem dX5_set_28 : decode cX5_set 28 = .ok (.aload_n 1, 1) := by decide +kernel
theorem dX5_set_29 : decode cX5_set 29 = .ok (.getfield 67, 3) := by decide +kernel
theorem dX5_set_32 : decode cX5_set 32 = .ok (.i2l, 1) := by decide +kernel
theorem dX5_set_33 : decode cX5_set 33 = .ok (.putfield 31, 3) := by decide +kernel
theorem dX5_set_36 : decode cX5_set 36 = .ok (.iload_n 2, 1) := by decide +kernel
theorem dX5_set_37 : decode cX5_set 37 = .ok (.invokestatic 69, 3) := by decide +kernel
theorem dX5_set_40 : decode cX5_set 40 = .ok (.istore_n 3, 1) := by decide +kernel
theorem dX5_set_41 : decode cX5_set 41 = .ok (.iload_n 2, 1) := by decide +kernel
theorem dX5_set_42 : decode cX5_set 42 = .ok (.invokestatic 75, 3) := by decide +kernel
theorem dX5_set_45 : decode cX5_set 45 = .ok (.istore 4, 2) := by decide +kernel
theorem dX5_set_47 : decode cX5_set 47 = .ok (.aload_n 0, 1) := by decide +kernel
theorem dX5_set_48 : decode cX5_set 48 = .ok (.iload_n 3, 1) := by decide +kernel
theorem dX5_set_49 : decode cX5_set 49 = .ok (.iload 4, 2) := by decide +kernel
theorem dX5_set_51 : decode cX5_set 51 = .ok (.invokestatic 78, 3) := by decide +kernel
theorem dX5_set_54 : decode cX5_set 54 = .ok (.i2l, 1) := by decide +kernel
theorem dX5_set_55 : decode cX5_set 55 = .ok (.putfield 7, 3) := by decide +kernel
theorem dX5_set_58 : decode cX5_set 58 = .ok (.aload_n 0, 1) := by decide +kernel
theorem dX5_set_59 : decode cX5_set 59 = .ok (.iload_n 3, 1) := by decide +kernel
theorem dX5_set_60 : decode cX5_set 60 = .ok (.iload 4, 2) := by decide +kernel
theorem dX5_set_62 : decode cX5_set 62 = .ok (.invokestatic 82, 3) := by decide +kernel
theorem dX5_set_65 : decode cX5_set 65 = .ok (.i2l, 1) := by decide +kernel
theorem dX5_set_66 : decode cX5_set 66 = .ok (.putfield 34, 3) := by decide +kernel
theorem dX5_set_69 : decode cX5_set 69 = .ok (.aload_n 0, 1) := by decide +kernel
theorem dX5_set_70 : decode cX5_set 70 = .ok (.iload_n 3, 1) := by decide +kernel
theorem dX5_set_71 : decode cX5_set 71 = .ok (.iload 4, 2) := by decide +kernel
theorem dX5_set_73 : decode cX5_set 73 = .ok (.invokestatic 84, 3) := by decide +kernel
theorem dX5_set_76 : decode cX5_set 76 = .ok (.i2l, 1) := by decide +kernel
theorem dX5_set_77 : decode cX5_set 77 = .ok (.putfield 13, 3) := by decide +kernel
theorem dX5_set_80 : decode cX5_set 80 = .ok (.aload_n 0, 1) := by decide +kernel
theorem dX5_set_81 : decode cX5_set 81 = .ok (.aload_n 0, 1) := by decide +kernel
theorem dX5_set_82 : decode cX5_set 82 = .ok (.getfield 22, 3) := by decide +kernel
theorem dX5_set_85 : decode cX5_set 85 = .ok (.aload_n 0, 1) := by decide +kernel
theorem dX5_set_86 : decode cX5_set 86 = .ok (.getfield 22, 3) := by decide +kernel
theorem dX5_set_89 : decode cX5_set 89 = .ok (.lmul, 1) := by decide +kernel
theorem dX5_set_90 : decode cX5_set 90 = .ok (.aload_n 0, 1) := by decide +kernel
theorem dX5_set_91 : decode cX5_set 91 = .ok (.getfield 25, 3) := by decide +kernel
theorem dX5_set_94 : decode cX5_set 94 = .ok (.aload_n 0, 1) := by decide +kernel
theorem dX5_set_95 : decode cX5_set 95 = .ok (.getfield 25, 3) := by decide +kernel
theorem dX5_set_98 : decode cX5_set 98 = .ok (.lmul, 1) := by decide +kernel
theorem dX5_set_99 : decode cX5_set 99 = .ok (.ladd, 1) := by decide +kernel
theorem dX5_set_100 : decode cX5_set 100 = .ok (.aload_n 0, 1) := by decide +kernel
theorem dX5_set_101 : decode cX5_set 101 = .ok (.getfield 7, 3) := by decide +kernel
theorem dX5_set_104 : decode cX5_set 104 = .ok (.lmul, 1) := by decide +kernel
theorem dX5_set_105 : decode cX5_set 105 = .ok (.ldc2_w 87, 3) := by decide +kernel
theorem dX5_set_108 : decode cX5_set 108 = .ok (.aload_n 0, 1) := by decide +kernel
theorem dX5_set_109 : decode cX5_set 109 = .ok (.getfield 22, 3) := by decide +kernel
theorem dX5_set_112 : decode cX5_set 112 = .ok (.lmul, 1) := by decide +kernel
theorem dX5_set_113 : decode cX5_set 113 = .ok (.aload_n 0, 1) := by decide +kernel
theorem dX5_set_114 : decode cX5_set 114 = .ok (.getfield 25, 3) := by decide +kernel
theorem dX5_set_117 : decode cX5_set 117 = .ok (.lmul, 1) := by decide +kernel
theorem dX5_set_118 : decode cX5_set 118 = .ok (.aload_n 0, 1) := by decide +kernel
theorem dX5_set_119 : decode cX5_set 119 = .ok (.getfield 34, 3) := by decide +kernel
theorem dX5_set_122 : decode cX5_set 122 = .ok (.lmul, 1) := by decide +kernel
theorem dX5_set_123 : decode cX5_set 123 = .ok (.lsub, 1) := by decide +kernel
theorem dX5_set_124 : decode cX5_set 124 = .ok (.putfield 16, 3) := by decide +kernel
theorem dX5_set_127 : decode cX5_set 127 = .ok (.aload_n 0, 1) := by decide +kernel
theorem dX5_set_128 : decode cX5_set 128 = .ok (.aload_n 0, 1) := by decide +kernel
theorem dX5_set_129 : decode cX5_set 129 = .ok (.getfield 16, 3) := by decide +kernel
theorem dX5_set_132 : decode cX5_set 132 = .ok (.aload_n 0, 1) := by decide +kernel
theorem dX5_set_133 : decode cX5_set 133 = .ok (.getfield 28, 3) := by decide +kernel
theorem dX5_set_136 : decode cX5_set 136 = .ok (.aload_n 0, 1) := by decide +kernel
theorem dX5_set_137 : decode cX5_set 137 = .ok (.getfield 28, 3) := by decide +kernel
theorem dX5_set_140 : decode cX5_set 140 = .ok (.lmul, 1) := by decide +kernel
theorem dX5_set_141 : decode cX5_set 141 = .ok (.aload_n 0, 1) := by decide +kernel
theorem dX5_set_142 : decode cX5_set 142 = .ok (.getfield 31, 3) := by decide +kernel
theorem dX5_set_145 : decode cX5_set 145 = .ok (.aload_n 0, 1) := by decide +kernel
theorem dX5_set_146 : decode cX5_set 146 = .ok (.getfield 31, 3) := by decide +kernel
theorem dX5_set_149 : decode cX5_set 149 = .ok (.lmul, 1) := by decide +kernel
theorem dX5_set_150 : decode cX5_set 150 = .ok (.lsub, 1) := by decide +kernel
theorem dX5_set_151 : decode cX5_set 151 = .ok (.aload_n 0, 1) := by decide +kernel
theorem dX5_set_152 : decode cX5_set 152 = .ok (.getfield 7, 3) := by decide +kernel
theorem dX5_set_155 : decode cX5_set 155 = .ok (.lmul, 1) := by decide +kernel
theorem dX5_set_156 : decode cX5_set 156 = .ok (.ladd, 1) := by decide +kernel
theorem dX5_set_157 : decode cX5_set 157 = .ok (.putfield 37, 3) := by decide +kernel
theorem dX5_set_160 : decode cX5_set 160 = .ok (.aload_n 0, 1) := by decide +kernel
theorem dX5_set_161 : decode cX5_set 161 = .ok (.ldc2_w 89, 3) := by decide +kernel
theorem dX5_set_164 : decode cX5_set 164 = .ok (.aload_n 0, 1) := by decide +kernel
theorem dX5_set_165 : decode cX5_set 165 = .ok (.getfield 28, 3) := by decide +kernel
theorem dX5_set_168 : decode cX5_set 168 = .ok (.lmul, 1) := by decide +kernel
theorem dX5_set_169 : decode cX5_set 169 = .ok (.aload_n 0, 1) := by decide +kernel
theorem dX5_set_170 : decode cX5_set 170 = .ok (.getfield 28, 3) := by decide +kernel
theorem dX5_set_173 : decode cX5_set 173 = .ok (.lmul, 1) := by decide +kernel
theorem dX5_set_174 : decode cX5_set 174 = .ok (.aload_n 0, 1) := by decide +kernel
theorem dX5_set_175 : decode cX5_set 175 = .ok (.getfield 16, 3) := by decide +kernel
theorem dX5_set_178 : decode cX5_set 178 = .ok (.lmul, 1) := by decide +kernel
theorem dX5_set_179 : decode cX5_set 179 = .ok (.aload_n 0, 1) := by decide +kernel
theorem dX5_set_180 : decode cX5_set 180 = .ok (.getfield 7, 3) := by decide +kernel
theorem dX5_set_183 : decode cX5_set 183 = .ok (.lmul, 1) := by decide +kernel
theorem dX5_set_184 : decode cX5_set 184 = .ok (.aload_n 0, 1) := by decide +kernel
theorem dX5_set_185 : decode cX5_set 185 = .ok (.getfield 37, 3) := by decide +kernel
theorem dX5_set_188 : decode cX5_set 188 = .ok (.aload_n 0, 1) := by decide +kernel
theorem dX5_set_189 : decode cX5_set 189 = .ok (.getfield 37, 3) := by decide +kernel
theorem dX5_set_192 : decode cX5_set 192 = .ok (.lmul, 1) := by decide +kernel
theorem dX5_set_193 : decode cX5_set 193 = .ok (.lsub, 1) := by decide +kernel
theorem dX5_set_194 : decode cX5_set 194 = .ok (.putfield 19, 3) := by decide +kernel
theorem dX5_set_197 : decode cX5_set 197 = .ok (.aload_n 0, 1) := by decide +kernel
theorem dX5_set_198 : decode cX5_set 198 = .ok (.aload_n 0, 1) := by decide +kernel
theorem dX5_set_199 : decode cX5_set 199 = .ok (.getfield 22, 3) := by decide +kernel
theorem dX5_set_202 : decode cX5_set 202 = .ok (.aload_n 0, 1) := by decide +kernel
theorem dX5_set_203 : decode cX5_set 203 = .ok (.getfield 7, 3) := by decide +kernel
theorem dX5_set_206 : decode cX5_set 206 = .ok (.lmul, 1) := by decide +kernel
theorem dX5_set_207 : decode cX5_set 207 = .ok (.aload_n 0, 1) := by decide +kernel
theorem dX5_set_208 : decode cX5_set 208 = .ok (.getfield 25, 3) := by decide +kernel
theorem dX5_set_211 : decode cX5_set 211 = .ok (.aload_n 0, 1) := by decide +kernel
theorem dX5_set_212 : decode cX5_set 212 = .ok (.getfield 34, 3) := by decide +kernel
theorem dX5_set_215 : decode cX5_set 215 = .ok (.lmul, 1) := by decide +kernel
theorem dX5_set_216 : decode cX5_set 216 = .ok (.lsub, 1) := by decide +kernel
theorem dX5_set_217 : decode cX5_set 217 = .ok (.putfield 40, 3) := by decide +kernel
theorem dX5_set_220 : decode cX5_set 220 = .ok (.aload_n 0, 1) := by decide +kernel
theorem dX5_set_221 : decode cX5_set 221 = .ok (.aload_n 0, 1) := by decide +kernel
theorem dX5_set_222 : decode cX5_set 222 = .ok (.getfield 25, 3) := by decide +kernel
theorem dX5_set_225 : decode cX5_set 225 = .ok (.lneg, 1) := by decide +kernel
theorem dX5_set_226 : decode cX5_set 226 = .ok (.aload_n 0, 1) := by decide +kernel
theorem dX5_set_227 : decode cX5_set 227 = .ok (.getfield 13, 3) := by decide +kernel
theorem dX5_set_230 : decode cX5_set 230 = .ok (.lmul, 1) := by decide +kernel
theorem dX5_set_231 : decode cX5_set 231 = .ok (.putfield 43, 3) := by decide +kernel
theorem dX5_set_234 : decode cX5_set 234 = .ok (.return_, 1) := by decide +kernel
theorem dX5_isLawful_0 : decode cX5_isLawful 0 = .ok (.aload_n 0, 1) := by decide +kernel
theorem dX5_isLawful_1 : decode cX5_isLawful 1 = .ok (.getfield 16, 3) := by decide +kernel
theorem dX5_isLawful_4 : decode cX5_isLawful 4 = .ok (.lconst 0, 1) := by decide +kernel
theorem dX5_isLawful_5 : decode cX5_isLawful 5 = .ok (.lcmp, 1) := by decide +kernel
theorem dX5_isLawful_6 : decode cX5_isLawful 6 = .ok (.ifCond .le 16, 3) := by decide +kernel
theorem dX5_isLawful_9 : decode cX5_isLawful 9 = .ok (.aload_n 0, 1) := by decide +kernel
theorem dX5_isLawful_10 : decode cX5_isLawful 10 = .ok (.getfield 19, 3) := by decide +kernel
theorem dX5_isLawful_13 : decode cX5_isLawful 13 = .ok (.lconst 0, 1) := by decide +kernel
theorem dX5_isLawful_14 : decode cX5_isLawful 14 = .ok (.lcmp, 1) := by decide +kernel
theorem dX5_isLawful_15 : decode cX5_isLawful 15 = .ok (.ifCond .lt 7, 3) := by decide +kernel
theorem dX5_isLawful_18 : decode cX5_isLawful 18 = .ok (.iconst 1, 1) := by decide +kernel
theorem dX5_isLawful_19 : decode cX5_isLawful 19 = .ok (.goto 4, 3) := by decide +kernel
theorem dX5_isLawful_22 : decode cX5_isLawful 22 = .ok (.iconst 0, 1) := by decide +kernel
theorem dX5_isLawful_23 : decode cX5_isLawful 23 = .ok (.ireturn, 1) := by decide +kernel
theorem dX5_state_0 : decode cX5_state 0 = .ok (.aload_n 0, 1) := by decide +kernel
theorem dX5_state_1 : decode cX5_state 1 = .ok (.invokevirtual 91, 3) := by decide +kernel
theorem dX5_state_4 : decode cX5_state 4 = .ok (.ifCond .ne 5, 3) := by decide +kernel
theorem dX5_state_7 : decode cX5_state 7 = .ok (.iconst 0, 1) := by decide +kernel
theorem dX5_state_8 : decode cX5_state 8 = .ok (.ireturn, 1) := by decide +kernel
theorem dX5_state_9 : decode cX5_state 9 = .ok (.aload_n 0, 1) := by decide +kernel
theorem dX5_state_10 : decode cX5_state 10 = .ok (.getfield 19, 3) := by decide +kernel
theorem dX5_state_13 : decode cX5_state 13 = .ok (.lconst 0, 1) := by decide +kernel
theorem dX5_state_14 : decode cX5_state 14 = .ok (.lcmp, 1) := by decide +kernel
theorem dX5_state_15 : decode cX5_state 15 = .ok (.ifCond .ne 7, 3) := by decide +kernel
theorem dX5_state_18 : decode cX5_state 18 = .ok (.iconst 2, 1) := by decide +kernel
theorem dX5_state_19 : decode cX5_state 19 = .ok (.goto 4, 3) := by decide +kernel
theorem dX5_state_22 : decode cX5_state 22 = .ok (.iconst 1, 1) := by decide +kernel
theorem dX5_state_23 : decode cX5_state 23 = .ok (.ireturn, 1) := by decide +kernel
theorem dX5_signOf_0 : decode cX5_signOf 0 = .ok (.iload_n 0, 1) := by decide +kernel
theorem dX5_signOf_1 : decode cX5_signOf 1 = .ok (.ifCond .ne 7, 3) := by decide +kernel
theorem dX5_signOf_4 : decode cX5_signOf 4 = .ok (.lconst 1, 1) := by decide +kernel
theorem dX5_signOf_5 : decode cX5_signOf 5 = .ok (.goto 6, 3) := by decide +kernel
theorem dX5_signOf_8 : decode cX5_signOf 8 = .ok (.ldc2_w 95, 3) := by decide +kernel
theorem dX5_signOf_11 : decode cX5_signOf 11 = .ok (.lreturn, 1) := by decide +kernel
theorem dX5_jointX_0 : decode cX5_jointX 0 = .ok (.ldc2_w 87, 3) := by decide +kernel
theorem dX5_jointX_3 : decode cX5_jointX 3 = .ok (.aload_n 0, 1) := by decide +kernel
theorem dX5_jointX_4 : decode cX5_jointX 4 = .ok (.getfield 25, 3) := by decide +kernel
theorem dX5_jointX_7 : decode cX5_jointX 7 = .ok (.lmul, 1) := by decide +kernel
theorem dX5_jointX_8 : decode cX5_jointX 8 = .ok (.aload_n 0, 1) := by decide +kernel
theorem dX5_jointX_9 : decode cX5_jointX 9 = .ok (.getfield 34, 3) := by decide +kernel
theorem dX5_jointX_12 : decode cX5_jointX 12 = .ok (.lmul, 1) := by decide +kernel
theorem dX5_jointX_13 : decode cX5_jointX 13 = .ok (.aload_n 0, 1) := by decide +kernel
theorem dX5_jointX_14 : decode cX5_jointX 14 = .ok (.getfield 16, 3) := by decide +kernel
theorem dX5_jointX_17 : decode cX5_jointX 17 = .ok (.lmul, 1) := by decide +kernel
theorem dX5_jointX_18 : decode cX5_jointX 18 = .ok (.aload_n 0, 1) := by decide +kernel
theorem dX5_jointX_19 : decode cX5_jointX 19 = .ok (.getfield 37, 3) := by decide +kernel
theorem dX5_jointX_22 : decode cX5_jointX 22 = .ok (.aload_n 0, 1) := by decide +kernel
theorem dX5_jointX_23 : decode cX5_jointX 23 = .ok (.getfield 40, 3) := by decide +kernel
theorem dX5_jointX_26 : decode cX5_jointX 26 = .ok (.lmul, 1) := by decide +kernel
theorem dX5_jointX_27 : decode cX5_jointX 27 = .ok (.ladd, 1) := by decide +kernel
theorem dX5_jointX_28 : decode cX5_jointX 28 = .ok (.aload_n 0, 1) := by decide +kernel
theorem dX5_jointX_29 : decode cX5_jointX 29 = .ok (.getfield 43, 3) := by decide +kernel
theorem dX5_jointX_32 : decode cX5_jointX 32 = .ok (.lneg, 1) := by decide +kernel
theorem dX5_jointX_33 : decode cX5_jointX 33 = .ok (.iload_n 1, 1) := by decide +kernel
theorem dX5_jointX_34 : decode cX5_jointX 34 = .ok (.invokestatic 97, 3) := by decide +kernel
theorem dX5_jointX_37 : decode cX5_jointX 37 = .ok (.lmul, 1) := by decide +kernel
theorem dX5_jointX_38 : decode cX5_jointX 38 = .ok (.ldc2_w 87, 3) := by decide +kernel
theorem dX5_jointX_41 : decode cX5_jointX 41 = .ok (.aload_n 0, 1) := by decide +kernel
theorem dX5_jointX_42 : decode cX5_jointX 42 = .ok (.getfield 16, 3) := by decide +kernel
theorem dX5_jointX_45 : decode cX5_jointX 45 = .ok (.lmul, 1) := by decide +kernel
theorem dX5_jointX_46 : decode cX5_jointX 46 = .ok (.aload_n 0, 1) := by decide +kernel
theorem dX5_jointX_47 : decode cX5_jointX 47 = .ok (.getfield 7, 3) := by decide +kernel
theorem dX5_jointX_50 : decode cX5_jointX 50 = .ok (.lmul, 1) := by decide +kernel
theorem dX5_jointX_51 : decode cX5_jointX 51 = .ok (.iload_n 2, 1) := by decide +kernel
theorem dX5_jointX_52 : decode cX5_jointX 52 = .ok (.invokestatic 101, 3) := by decide +kernel
theorem dX5_jointX_55 : decode cX5_jointX 55 = .ok (.lreturn, 1) := by decide +kernel
theorem dX5_jointY_0 : decode cX5_jointY 0 = .ok (.ldc2_w 87, 3) := by decide +kernel
theorem dX5_jointY_3 : decode cX5_jointY 3 = .ok (.aload_n 0, 1) := by decide +kernel
theorem dX5_jointY_4 : decode cX5_jointY 4 = .ok (.getfield 25, 3) := by decide +kernel
theorem dX5_jointY_7 : decode cX5_jointY 7 = .ok (.lmul, 1) := by decide +kernel
theorem dX5_jointY_8 : decode cX5_jointY 8 = .ok (.aload_n 0, 1) := by decide +kernel
theorem dX5_jointY_9 : decode cX5_jointY 9 = .ok (.getfield 13, 3) := by decide +kernel
theorem dX5_jointY_12 : decode cX5_jointY 12 = .ok (.lmul, 1) := by decide +kernel
theorem dX5_jointY_13 : decode cX5_jointY 13 = .ok (.aload_n 0, 1) := by decide +kernel
theorem dX5_jointY_14 : decode cX5_jointY 14 = .ok (.getfield 16, 3) := by decide +kernel
theorem dX5_jointY_17 : decode cX5_jointY 17 = .ok (.lmul, 1) := by decide +kernel
theorem dX5_jointY_18 : decode cX5_jointY 18 = .ok (.aload_n 0, 1) := by decide +kernel
theorem dX5_jointY_19 : decode cX5_jointY 19 = .ok (.getfield 37, 3) := by decide +kernel
theorem dX5_jointY_22 : decode cX5_jointY 22 = .ok (.aload_n 0, 1) := by decide +kernel
theorem dX5_jointY_23 : decode cX5_jointY 23 = .ok (.getfield 43, 3) := by decide +kernel
theorem dX5_jointY_26 : decode cX5_jointY 26 = .ok (.lmul, 1) := by decide +kernel
theorem dX5_jointY_27 : decode cX5_jointY 27 = .ok (.ladd, 1) := by decide +kernel
theorem dX5_jointY_28 : decode cX5_jointY 28 = .ok (.aload_n 0, 1) := by decide +kernel
theorem dX5_jointY_29 : decode cX5_jointY 29 = .ok (.getfield 40, 3) := by decide +kernel
theorem dX5_jointY_32 : decode cX5_jointY 32 = .ok (.iload_n 1, 1) := by decide +kernel
theorem dX5_jointY_33 : decode cX5_jointY 33 = .ok (.invokestatic 97, 3) := by decide +kernel
theorem dX5_jointY_36 : decode cX5_jointY 36 = .ok (.lmul, 1) := by decide +kernel
theorem dX5_jointY_37 : decode cX5_jointY 37 = .ok (.ldc2_w 87, 3) := by decide +kernel
theorem dX5_jointY_40 : decode cX5_jointY 40 = .ok (.aload_n 0, 1) := by decide +kernel
theorem dX5_jointY_41 : decode cX5_jointY 41 = .ok (.getfield 16, 3) := by decide +kernel
theorem dX5_jointY_44 : decode cX5_jointY 44 = .ok (.lmul, 1) := by decide +kernel
theorem dX5_jointY_45 : decode cX5_jointY 45 = .ok (.aload_n 0, 1) := by decide +kernel
theorem dX5_jointY_46 : decode cX5_jointY 46 = .ok (.getfield 7, 3) := by decide +kernel
theorem dX5_jointY_49 : decode cX5_jointY 49 = .ok (.lmul, 1) := by decide +kernel
theorem dX5_jointY_50 : decode cX5_jointY 50 = .ok (.iload_n 2, 1) := by decide +kernel
theorem dX5_jointY_51 : decode cX5_jointY 51 = .ok (.invokestatic 101, 3) := by decide +kernel
theorem dX5_jointY_54 : decode cX5_jointY 54 = .ok (.lreturn, 1) := by decide +kernel
theorem dX5_trace_0 : decode cX5_trace 0 = .ok (.iload_n 1, 1) := by decide +kernel
theorem dX5_trace_1 : decode cX5_trace 1 = .ok (.i2l, 1) := by decide +kernel
theorem dX5_trace_2 : decode cX5_trace 2 = .ok (.aload_n 0, 1) := by decide +kernel
theorem dX5_trace_3 : decode cX5_trace 3 = .ok (.getfield 40, 3) := by decide +kernel
theorem dX5_trace_6 : decode cX5_trace 6 = .ok (.lmul, 1) := by decide +kernel
theorem dX5_trace_7 : decode cX5_trace 7 = .ok (.iload_n 2, 1) := by decide +kernel
theorem dX5_trace_8 : decode cX5_trace 8 = .ok (.i2l, 1) := by decide +kernel
theorem dX5_trace_9 : decode cX5_trace 9 = .ok (.aload_n 0, 1) := by decide +kernel
theorem dX5_trace_10 : decode cX5_trace 10 = .ok (.getfield 43, 3) := by decide +kernel
theorem dX5_trace_13 : decode cX5_trace 13 = .ok (.lmul, 1) := by decide +kernel
theorem dX5_trace_14 : decode cX5_trace 14 = .ok (.lsub, 1) := by decide +kernel
theorem dX5_trace_15 : decode cX5_trace 15 = .ok (.lstore 4, 2) := by decide +kernel
theorem dX5_trace_17 : decode cX5_trace 17 = .ok (.iload_n 1, 1) := by decide +kernel
theorem dX5_trace_18 : decode cX5_trace 18 = .ok (.i2l, 1) := by decide +kernel
theorem dX5_trace_19 : decode cX5_trace 19 = .ok (.aload_n 0, 1) := by decide +kernel
theorem dX5_trace_20 : decode cX5_trace 20 = .ok (.getfield 43, 3) := by decide +kernel
theorem dX5_trace_23 : decode cX5_trace 23 = .ok (.lmul, 1) := by decide +kernel
theorem dX5_trace_24 : decode cX5_trace 24 = .ok (.iload_n 2, 1) := by decide +kernel
theorem dX5_trace_25 : decode cX5_trace 25 = .ok (.i2l, 1) := by decide +kernel
theorem dX5_trace_26 : decode cX5_trace 26 = .ok (.aload_n 0, 1) := by decide +kernel
theorem dX5_trace_27 : decode cX5_trace 27 = .ok (.getfield 40, 3) := by decide +kernel
theorem dX5_trace_30 : decode cX5_trace 30 = .ok (.lmul, 1) := by decide +kernel
theorem dX5_trace_31 : decode cX5_trace 31 = .ok (.ladd, 1) := by decide +kernel
theorem dX5_trace_32 : decode cX5_trace 32 = .ok (.lstore 6, 2) := by decide +kernel
theorem dX5_trace_34 : decode cX5_trace 34 = .ok (.aload_n 0, 1) := by decide +kernel
theorem dX5_trace_35 : decode cX5_trace 35 = .ok (.ldc2_w 107, 3) := by decide +kernel
theorem dX5_trace_38 : decode cX5_trace 38 = .ok (.aload_n 0, 1) := by decide +kernel
theorem dX5_trace_39 : decode cX5_trace 39 = .ok (.getfield 25, 3) := by decide +kernel
theorem dX5_trace_42 : decode cX5_trace 42 = .ok (.lmul, 1) := by decide +kernel
theorem dX5_trace_43 : decode cX5_trace 43 = .ok (.aload_n 0, 1) := by decide +kernel
theorem dX5_trace_44 : decode cX5_trace 44 = .ok (.getfield 34, 3) := by decide +kernel
theorem dX5_trace_47 : decode cX5_trace 47 = .ok (.lmul, 1) := by decide +kernel
theorem dX5_trace_48 : decode cX5_trace 48 = .ok (.aload_n 0, 1) := by decide +kernel
theorem dX5_trace_49 : decode cX5_trace 49 = .ok (.getfield 16, 3) := by decide +kernel
theorem dX5_trace_52 : decode cX5_trace 52 = .ok (.lmul, 1) := by decide +kernel
theorem dX5_trace_53 : decode cX5_trace 53 = .ok (.aload_n 0, 1) := by decide +kernel
theorem dX5_trace_54 : decode cX5_trace 54 = .ok (.getfield 37, 3) := by decide +kernel
theorem dX5_trace_57 : decode cX5_trace 57 = .ok (.lload 4, 2) := by decide +kernel
theorem dX5_trace_59 : decode cX5_trace 59 = .ok (.lmul, 1) := by decide +kernel
theorem dX5_trace_60 : decode cX5_trace 60 = .ok (.ladd, 1) := by decide +kernel
theorem dX5_trace_61 : decode cX5_trace 61 = .ok (.putfield 46, 3) := by decide +kernel
theorem dX5_trace_64 : decode cX5_trace 64 = .ok (.aload_n 0, 1) := by decide +kernel
theorem dX5_trace_65 : decode cX5_trace 65 = .ok (.lload 6, 2) := by decide +kernel
theorem dX5_trace_67 : decode cX5_trace 67 = .ok (.lneg, 1) := by decide +kernel
theorem dX5_trace_68 : decode cX5_trace 68 = .ok (.iload_n 3, 1) := by decide +kernel
theorem dX5_trace_69 : decode cX5_trace 69 = .ok (.invokestatic 97, 3) := by decide +kernel
theorem dX5_trace_72 : decode cX5_trace 72 = .ok (.lmul, 1) := by decide +kernel
theorem dX5_trace_73 : decode cX5_trace 73 = .ok (.putfield 49, 3) := by decide +kernel
theorem dX5_trace_76 : decode cX5_trace 76 = .ok (.aload_n 0, 1) := by decide +kernel
theorem dX5_trace_77 : decode cX5_trace 77 = .ok (.ldc2_w 107, 3) := by decide +kernel
theorem dX5_trace_80 : decode cX5_trace 80 = .ok (.aload_n 0, 1) := by decide +kernel
theorem dX5_trace_81 : decode cX5_trace 81 = .ok (.getfield 25, 3) := by decide +kernel
theorem dX5_trace_84 : decode cX5_trace 84 = .ok (.lmul, 1) := by decide +kernel
theorem dX5_trace_85 : decode cX5_trace 85 = .ok (.aload_n 0, 1) := by decide +kernel
theorem dX5_trace_86 : decode cX5_trace 86 = .ok (.getfield 13, 3) := by decide +kernel
theorem dX5_trace_89 : decode cX5_trace 89 = .ok (.lmul, 1) := by decide +kernel
theorem dX5_trace_90 : decode cX5_trace 90 = .ok (.aload_n 0, 1) := by decide +kernel
theorem dX5_trace_91 : decode cX5_trace 91 = .ok (.getfield 16, 3) := by decide +kernel
theorem dX5_trace_94 : decode cX5_trace 94 = .ok (.lmul, 1) := by decide +kernel
theorem dX5_trace_95 : decode cX5_trace 95 = .ok (.aload_n 0, 1) := by decide +kernel
theorem dX5_trace_96 : decode cX5_trace 96 = .ok (.getfield 37, 3) := by decide +kernel
theorem dX5_trace_99 : decode cX5_trace 99 = .ok (.lload 6, 2) := by decide +kernel
theorem dX5_trace_101 : decode cX5_trace 101 = .ok (.lmul, 1) := by decide +kernel
theorem dX5_trace_102 : decode cX5_trace 102 = .ok (.ladd, 1) := by decide +kernel
theorem dX5_trace_103 : decode cX5_trace 103 = .ok (.putfield 52, 3) := by decide +kernel
theorem dX5_trace_106 : decode cX5_trace 106 = .ok (.aload_n 0, 1) := by decide +kernel
theorem dX5_trace_107 : decode cX5_trace 107 = .ok (.lload 4, 2) := by decide +kernel
theorem dX5_trace_109 : decode cX5_trace 109 = .ok (.iload_n 3, 1) := by decide +kernel
theorem dX5_trace_110 : decode cX5_trace 110 = .ok (.invokestatic 97, 3) := by decide +kernel
theorem dX5_trace_113 : decode cX5_trace 113 = .ok (.lmul, 1) := by decide +kernel
theorem dX5_trace_114 : decode cX5_trace 114 = .ok (.putfield 55, 3) := by decide +kernel
theorem dX5_trace_117 : decode cX5_trace 117 = .ok (.return_, 1) := by decide +kernel
theorem dX5_tenthsX_0 : decode cX5_tenthsX 0 = .ok (.aload_n 0, 1) := by decide +kernel
theorem dX5_tenthsX_1 : decode cX5_tenthsX 1 = .ok (.getfield 46, 3) := by decide +kernel
theorem dX5_tenthsX_4 : decode cX5_tenthsX 4 = .ok (.aload_n 0, 1) := by decide +kernel
theorem dX5_tenthsX_5 : decode cX5_tenthsX 5 = .ok (.getfield 49, 3) := by decide +kernel
theorem dX5_tenthsX_8 : decode cX5_tenthsX 8 = .ok (.aload_n 0, 1) := by decide +kernel
theorem dX5_tenthsX_9 : decode cX5_tenthsX 9 = .ok (.getfield 19, 3) := by decide +kernel
theorem dX5_tenthsX_12 : decode cX5_tenthsX 12 = .ok (.ldc2_w 87, 3) := by decide +kernel
theorem dX5_tenthsX_15 : decode cX5_tenthsX 15 = .ok (.aload_n 0, 1) := by decide +kernel
theorem dX5_tenthsX_16 : decode cX5_tenthsX 16 = .ok (.getfield 16, 3) := by decide +kernel
theorem dX5_tenthsX_19 : decode cX5_tenthsX 19 = .ok (.lmul, 1) := by decide +kernel
theorem dX5_tenthsX_20 : decode cX5_tenthsX 20 = .ok (.aload_n 0, 1) := by decide +kernel
theorem dX5_tenthsX_21 : decode cX5_tenthsX 21 = .ok (.getfield 7, 3) := by decide +kernel
theorem dX5_tenthsX_24 : decode cX5_tenthsX 24 = .ok (.lmul, 1) := by decide +kernel
theorem dX5_tenthsX_25 : decode cX5_tenthsX 25 = .ok (.invokestatic 109, 3) := by decide +kernel
theorem dX5_tenthsX_28 : decode cX5_tenthsX 28 = .ok (.l2i, 1) := by decide +kernel
theorem dX5_tenthsX_29 : decode cX5_tenthsX 29 = .ok (.ireturn, 1) := by decide +kernel
theorem dX5_tenthsY_0 : decode cX5_tenthsY 0 = .ok (.aload_n 0, 1) := by decide +kernel
theorem dX5_tenthsY_1 : decode cX5_tenthsY 1 = .ok (.getfield 52, 3) := by decide +kernel
theorem dX5_tenthsY_4 : decode cX5_tenthsY 4 = .ok (.aload_n 0, 1) := by decide +kernel
theorem dX5_tenthsY_5 : decode cX5_tenthsY 5 = .ok (.getfield 55, 3) := by decide +kernel
theorem dX5_tenthsY_8 : decode cX5_tenthsY 8 = .ok (.aload_n 0, 1) := by decide +kernel
theorem dX5_tenthsY_9 : decode cX5_tenthsY 9 = .ok (.getfield 19, 3) := by decide +kernel
theorem dX5_tenthsY_12 : decode cX5_tenthsY 12 = .ok (.ldc2_w 87, 3) := by decide +kernel
theorem dX5_tenthsY_15 : decode cX5_tenthsY 15 = .ok (.aload_n 0, 1) := by decide +kernel
theorem dX5_tenthsY_16 : decode cX5_tenthsY 16 = .ok (.getfield 16, 3) := by decide +kernel
theorem dX5_tenthsY_19 : decode cX5_tenthsY 19 = .ok (.lmul, 1) := by decide +kernel
theorem dX5_tenthsY_20 : decode cX5_tenthsY 20 = .ok (.aload_n 0, 1) := by decide +kernel
theorem dX5_tenthsY_21 : decode cX5_tenthsY 21 = .ok (.getfield 7, 3) := by decide +kernel
theorem dX5_tenthsY_24 : decode cX5_tenthsY 24 = .ok (.lmul, 1) := by decide +kernel
theorem dX5_tenthsY_25 : decode cX5_tenthsY 25 = .ok (.invokestatic 109, 3) := by decide +kernel
theorem dX5_tenthsY_28 : decode cX5_tenthsY 28 = .ok (.l2i, 1) := by decide +kernel
theorem dX5_tenthsY_29 : decode cX5_tenthsY 29 = .ok (.ireturn, 1) := by decide +kernel
theorem dX5_isExactlyAt_0 : decode cX5_isExactlyAt 0 = .ok (.ldc2_w 87, 3) := by decide +kernel
theorem dX5_isExactlyAt_3 : decode cX5_isExactlyAt 3 = .ok (.aload_n 0, 1) := by decide +kernel
theorem dX5_isExactlyAt_4 : decode cX5_isExactlyAt 4 = .ok (.getfield 16, 3) := by decide +kernel
theorem dX5_isExactlyAt_7 : decode cX5_isExactlyAt 7 = .ok (.lmul, 1) := by decide +kernel
theorem dX5_isExactlyAt_8 : decode cX5_isExactlyAt 8 = .ok (.aload_n 0, 1) := by decide +kernel
theorem dX5_isExactlyAt_9 : decode cX5_isExactlyAt 9 = .ok (.getfield 7, 3) := by decide +kernel
theorem dX5_isExactlyAt_12 : decode cX5_isExactlyAt 12 = .ok (.lmul, 1) := by decide +kernel
theorem dX5_isExactlyAt_13 : decode cX5_isExactlyAt 13 = .ok (.lstore_n 3, 1) := by decide +kernel
theorem dX5_isExactlyAt_14 : decode cX5_isExactlyAt 14 = .ok (.aload_n 0, 1) := by decide +kernel
theorem dX5_isExactlyAt_15 : decode cX5_isExactlyAt 15 = .ok (.getfield 46, 3) := by decide +kernel
theorem dX5_isExactlyAt_18 : decode cX5_isExactlyAt 18 = .ok (.aload_n 0, 1) := by decide +kernel
theorem dX5_isExactlyAt_19 : decode cX5_isExactlyAt 19 = .ok (.getfield 49, 3) := by decide +kernel
theorem dX5_isExactlyAt_22 : decode cX5_isExactlyAt 22 = .ok (.aload_n 0, 1) := by decide +kernel
theorem dX5_isExactlyAt_23 : decode cX5_isExactlyAt 23 = .ok (.getfield 19, 3) := by decide +kernel
theorem dX5_isExactlyAt_26 : decode cX5_isExactlyAt 26 = .ok (.lload_n 3, 1) := by decide +kernel
theorem dX5_isExactlyAt_27 : decode cX5_isExactlyAt 27 = .ok (.iload_n 1, 1) := by decide +kernel
theorem dX5_isExactlyAt_28 : decode cX5_isExactlyAt 28 = .ok (.i2l, 1) := by decide +kernel
theorem dX5_isExactlyAt_29 : decode cX5_isExactlyAt 29 = .ok (.lmul, 1) := by decide +kernel
theorem dX5_isExactlyAt_30 : decode cX5_isExactlyAt 30 = .ok (.invokestatic 113, 3) := by decide +kernel
theorem dX5_isExactlyAt_33 : decode cX5_isExactlyAt 33 = .ok (.ifCond .eq 29, 3) := by decide +kernel
theorem dX5_isExactlyAt_36 : decode cX5_isExactlyAt 36 = .ok (.aload_n 0, 1) := by decide +kernel
theorem dX5_isExactlyAt_37 : decode cX5_isExactlyAt 37 = .ok (.getfield 52, 3) := by decide +kernel
theorem dX5_isExactlyAt_40 : decode cX5_isExactlyAt 40 = .ok (.aload_n 0, 1) := by decide +kernel
theorem dX5_isExactlyAt_41 : decode cX5_isExactlyAt 41 = .ok (.getfield 55, 3) := by decide +kernel
theorem dX5_isExactlyAt_44 : decode cX5_isExactlyAt 44 = .ok (.aload_n 0, 1) := by decide +kernel
theorem dX5_isExactlyAt_45 : decode cX5_isExactlyAt 45 = .ok (.getfield 19, 3) := by decide +kernel
theorem dX5_isExactlyAt_48 : decode cX5_isExactlyAt 48 = .ok (.lload_n 3, 1) := by decide +kernel
theorem dX5_isExactlyAt_49 : decode cX5_isExactlyAt 49 = .ok (.iload_n 2, 1) := by decide +kernel
theorem dX5_isExactlyAt_50 : decode cX5_isExactlyAt 50 = .ok (.i2l, 1) := by decide +kernel
theorem dX5_isExactlyAt_51 : decode cX5_isExactlyAt 51 = .ok (.lmul, 1) := by decide +kernel
theorem dX5_isExactlyAt_52 : decode cX5_isExactlyAt 52 = .ok (.invokestatic 113, 3) := by decide +kernel
theorem dX5_isExactlyAt_55 : decode cX5_isExactlyAt 55 = .ok (.ifCond .eq 7, 3) := by decide +kernel
theorem dX5_isExactlyAt_58 : decode cX5_isExactlyAt 58 = .ok (.iconst 1, 1) := by decide +kernel
theorem dX5_isExactlyAt_59 : decode cX5_isExactlyAt 59 = .ok (.goto 4, 3) := by decide +kernel
theorem dX5_isExactlyAt_62 : decode cX5_isExactlyAt 62 = .ok (.iconst 0, 1) := by decide +kernel
theorem dX5_isExactlyAt_63 : decode cX5_isExactlyAt 63 = .ok (.ireturn, 1) := by decide +kernel
theorem dX5_forceUpper_0 : decode cX5_forceUpper 0 = .ok (.aload_n 0, 1) := by decide +kernel
theorem dX5_forceUpper_1 : decode cX5_forceUpper 1 = .ok (.getfield 28, 3) := by decide +kernel
theorem dX5_forceUpper_4 : decode cX5_forceUpper 4 = .ok (.aload_n 0, 1) := by decide +kernel
theorem dX5_forceUpper_5 : decode cX5_forceUpper 5 = .ok (.getfield 28, 3) := by decide +kernel
theorem dX5_forceUpper_8 : decode cX5_forceUpper 8 = .ok (.lmul, 1) := by decide +kernel
theorem dX5_forceUpper_9 : decode cX5_forceUpper 9 = .ok (.aload_n 0, 1) := by decide +kernel
theorem dX5_forceUpper_10 : decode cX5_forceUpper 10 = .ok (.getfield 31, 3) := by decide +kernel
theorem dX5_forceUpper_13 : decode cX5_forceUpper 13 = .ok (.aload_n 0, 1) := by decide +kernel
theorem dX5_forceUpper_14 : decode cX5_forceUpper 14 = .ok (.getfield 31, 3) := by decide +kernel
theorem dX5_forceUpper_17 : decode cX5_forceUpper 17 = .ok (.lmul, 1) := by decide +kernel
theorem dX5_forceUpper_18 : decode cX5_forceUpper 18 = .ok (.ladd, 1) := by decide +kernel
theorem dX5_forceUpper_19 : decode cX5_forceUpper 19 = .ok (.aload_n 0, 1) := by decide +kernel
theorem dX5_forceUpper_20 : decode cX5_forceUpper 20 = .ok (.getfield 7, 3) := by decide +kernel
theorem dX5_forceUpper_23 : decode cX5_forceUpper 23 = .ok (.lmul, 1) := by decide +kernel
theorem dX5_forceUpper_24 : decode cX5_forceUpper 24 = .ok (.aload_n 0, 1) := by decide +kernel
theorem dX5_forceUpper_25 : decode cX5_forceUpper 25 = .ok (.getfield 16, 3) := by decide +kernel
theorem dX5_forceUpper_28 : decode cX5_forceUpper 28 = .ok (.lsub, 1) := by decide +kernel
theorem dX5_forceUpper_29 : decode cX5_forceUpper 29 = .ok (.lreturn, 1) := by decide +kernel
theorem dX5_forceLower_0 : decode cX5_forceLower 0 = .ok (.ldc2_w 87, 3) := by decide +kernel
theorem dX5_forceLower_3 : decode cX5_forceLower 3 = .ok (.aload_n 0, 1) := by decide +kernel
theorem dX5_forceLower_4 : decode cX5_forceLower 4 = .ok (.getfield 28, 3) := by decide +kernel
theorem dX5_forceLower_7 : decode cX5_forceLower 7 = .ok (.lmul, 1) := by decide +kernel
theorem dX5_forceLower_8 : decode cX5_forceLower 8 = .ok (.aload_n 0, 1) := by decide +kernel
theorem dX5_forceLower_9 : decode cX5_forceLower 9 = .ok (.getfield 31, 3) := by decide +kernel
theorem dX5_forceLower_12 : decode cX5_forceLower 12 = .ok (.lmul, 1) := by decide +kernel
theorem dX5_forceLower_13 : decode cX5_forceLower 13 = .ok (.aload_n 0, 1) := by decide +kernel
theorem dX5_forceLower_14 : decode cX5_forceLower 14 = .ok (.getfield 7, 3) := by decide +kernel
theorem dX5_forceLower_17 : decode cX5_forceLower 17 = .ok (.lmul, 1) := by decide +kernel
theorem dX5_forceLower_18 : decode cX5_forceLower 18 = .ok (.lreturn, 1) := by decide +kernel
theorem dX5_turning_0 : decode cX5_turning 0 = .ok (.aload_n 0, 1) := by decide +kernel
theorem dX5_turning_1 : decode cX5_turning 1 = .ok (.getfield 25, 3) := by decide +kernel
theorem dX5_turning_4 : decode cX5_turning 4 = .ok (.aload_n 0, 1) := by decide +kernel
theorem dX5_turning_5 : decode cX5_turning 5 = .ok (.getfield 25, 3) := by decide +kernel
theorem dX5_turning_8 : decode cX5_turning 8 = .ok (.aload_n 0, 1) := by decide +kernel
theorem dX5_turning_9 : decode cX5_turning 9 = .ok (.getfield 7, 3) := by decide +kernel
theorem dX5_turning_12 : decode cX5_turning 12 = .ok (.lmul, 1) := by decide +kernel
theorem dX5_turning_13 : decode cX5_turning 13 = .ok (.aload_n 0, 1) := by decide +kernel
theorem dX5_turning_14 : decode cX5_turning 14 = .ok (.getfield 22, 3) := by decide +kernel
theorem dX5_turning_17 : decode cX5_turning 17 = .ok (.aload_n 0, 1) := by decide +kernel
theorem dX5_turning_18 : decode cX5_turning 18 = .ok (.getfield 34, 3) := by decide +kernel
theorem dX5_turning_21 : decode cX5_turning 21 = .ok (.lmul, 1) := by decide +kernel
theorem dX5_turning_22 : decode cX5_turning 22 = .ok (.lsub, 1) := by decide +kernel
theorem dX5_turning_23 : decode cX5_turning 23 = .ok (.lmul, 1) := by decide +kernel
theorem dX5_turning_24 : decode cX5_turning 24 = .ok (.aload_n 0, 1) := by decide +kernel
theorem dX5_turning_25 : decode cX5_turning 25 = .ok (.getfield 19, 3) := by decide +kernel
theorem dX5_turning_28 : decode cX5_turning 28 = .ok (.lmul, 1) := by decide +kernel
theorem dX5_turning_29 : decode cX5_turning 29 = .ok (.lstore_n 3, 1) := by decide +kernel
theorem dX5_turning_30 : decode cX5_turning 30 = .ok (.aload_n 0, 1) := by decide +kernel
theorem dX5_turning_31 : decode cX5_turning 31 = .ok (.getfield 25, 3) := by decide +kernel
theorem dX5_turning_34 : decode cX5_turning 34 = .ok (.aload_n 0, 1) := by decide +kernel
theorem dX5_turning_35 : decode cX5_turning 35 = .ok (.getfield 22, 3) := by decide +kernel
theorem dX5_turning_38 : decode cX5_turning 38 = .ok (.lmul, 1) := by decide +kernel
theorem dX5_turning_39 : decode cX5_turning 39 = .ok (.aload_n 0, 1) := by decide +kernel
theorem dX5_turning_40 : decode cX5_turning 40 = .ok (.getfield 13, 3) := by decide +kernel
theorem dX5_turning_43 : decode cX5_turning 43 = .ok (.lmul, 1) := by decide +kernel
theorem dX5_turning_44 : decode cX5_turning 44 = .ok (.aload_n 0, 1) := by decide +kernel
theorem dX5_turning_45 : decode cX5_turning 45 = .ok (.getfield 37, 3) := by decide +kernel
theorem dX5_turning_48 : decode cX5_turning 48 = .ok (.lmul, 1) := by decide +kernel
theorem dX5_turning_49 : decode cX5_turning 49 = .ok (.iload_n 1, 1) := by decide +kernel
theorem dX5_turning_50 : decode cX5_turning 50 = .ok (.invokestatic 97, 3) := by decide +kernel
theorem dX5_turning_53 : decode cX5_turning 53 = .ok (.lmul, 1) := by decide +kernel
theorem dX5_turning_54 : decode cX5_turning 54 = .ok (.lstore 5, 2) := by decide +kernel
theorem dX5_turning_56 : decode cX5_turning 56 = .ok (.lload_n 3, 1) := by decide +kernel
theorem dX5_turning_57 : decode cX5_turning 57 = .ok (.lload 5, 2) := by decide +kernel
theorem dX5_turning_59 : decode cX5_turning 59 = .ok (.aload_n 0, 1) := by decide +kernel
theorem dX5_turning_60 : decode cX5_turning 60 = .ok (.getfield 16, 3) := by decide +kernel
theorem dX5_turning_63 : decode cX5_turning 63 = .ok (.aload_n 0, 1) := by decide +kernel
theorem dX5_turning_64 : decode cX5_turning 64 = .ok (.getfield 19, 3) := by decide +kernel
theorem dX5_turning_67 : decode cX5_turning 67 = .ok (.lmul, 1) := by decide +kernel
theorem dX5_turning_68 : decode cX5_turning 68 = .ok (.iload_n 2, 1) := by decide +kernel
theorem dX5_turning_69 : decode cX5_turning 69 = .ok (.invokestatic 101, 3) := by decide +kernel
theorem dX5_turning_72 : decode cX5_turning 72 = .ok (.lreturn, 1) := by decide +kernel
theorem dX6_init_0 : decode cX6_init 0 = .ok (.aload_n 0, 1) := by decide +kernel
theorem dX6_init_1 : decode cX6_init 1 = .ok (.invokespecial 3, 3) := by decide +kernel
theorem dX6_init_4 : decode cX6_init 4 = .ok (.aload_n 0, 1) := by decide +kernel
theorem dX6_init_5 : decode cX6_init 5 = .ok (.sipush 700, 3) := by decide +kernel
theorem dX6_init_8 : decode cX6_init 8 = .ok (.newarray .byte, 2) := by decide +kernel
theorem dX6_init_10 : decode cX6_init 10 = .ok (.putfield 11, 3) := by decide +kernel
theorem dX6_init_13 : decode cX6_init 13 = .ok (.aload_n 0, 1) := by decide +kernel
theorem dX6_init_14 : decode cX6_init 14 = .ok (.iconst 4, 1) := by decide +kernel
theorem dX6_init_15 : decode cX6_init 15 = .ok (.newarray .int, 2) := by decide +kernel
theorem dX6_init_17 : decode cX6_init 17 = .ok (.putfield 15, 3) := by decide +kernel
theorem dX6_init_20 : decode cX6_init 20 = .ok (.aload_n 0, 1) := by decide +kernel
theorem dX6_init_21 : decode cX6_init 21 = .ok (.iconst 0, 1) := by decide +kernel
theorem dX6_init_22 : decode cX6_init 22 = .ok (.putfield 19, 3) := by decide +kernel
theorem dX6_init_25 : decode cX6_init 25 = .ok (.aload_n 0, 1) := by decide +kernel
theorem dX6_init_26 : decode cX6_init 26 = .ok (.iconst 0, 1) := by decide +kernel
theorem dX6_init_27 : decode cX6_init 27 = .ok (.putfield 23, 3) := by decide +kernel
theorem dX6_init_30 : decode cX6_init 30 = .ok (.aload_n 0, 1) := by decide +kernel
theorem dX6_init_31 : decode cX6_init 31 = .ok (.iconst 0, 1) := by decide +kernel
theorem dX6_init_32 : decode cX6_init 32 = .ok (.putfield 26, 3) := by decide +kernel
theorem dX6_init_35 : decode cX6_init 35 = .ok (.aload_n 0, 1) := by decide +kernel
theorem dX6_init_36 : decode cX6_init 36 = .ok (.iconst 0, 1) := by decide +kernel
theorem dX6_init_37 : decode cX6_init 37 = .ok (.putfield 29, 3) := by decide +kernel
theorem dX6_init_40 : decode cX6_init 40 = .ok (.aload_n 0, 1) := by decide +kernel
theorem dX6_init_41 : decode cX6_init 41 = .ok (.iconst (-1), 1) := by decide +kernel
theorem dX6_init_42 : decode cX6_init 42 = .ok (.putfield 32, 3) := by decide +kernel
theorem dX6_init_45 : decode cX6_init 45 = .ok (.return_, 1) := by decide +kernel
theorem dX6_hasRoom_0 : decode cX6_hasRoom 0 = .ok (.aload_n 0, 1) := by decide +kernel
theorem dX6_hasRoom_1 : decode cX6_hasRoom 1 = .ok (.getfield 19, 3) := by decide +kernel
theorem dX6_hasRoom_4 : decode cX6_hasRoom 4 = .ok (.bipush 20, 2) := by decide +kernel
theorem dX6_hasRoom_6 : decode cX6_hasRoom 6 = .ok (.iadd, 1) := by decide +kernel
theorem dX6_hasRoom_7 : decode cX6_hasRoom 7 = .ok (.sipush 700, 3) := by decide +kernel
theorem dX6_hasRoom_10 : decode cX6_hasRoom 10 = .ok (.if_icmp .gt 7, 3) := by decide +kernel
theorem dX6_hasRoom_13 : decode cX6_hasRoom 13 = .ok (.iconst 1, 1) := by decide +kernel
theorem dX6_hasRoom_14 : decode cX6_hasRoom 14 = .ok (.goto 4, 3) := by decide +kernel
theorem dX6_hasRoom_17 : decode cX6_hasRoom 17 = .ok (.iconst 0, 1) := by decide +kernel
theorem dX6_hasRoom_18 : decode cX6_hasRoom 18 = .ok (.ireturn, 1) := by decide +kernel
theorem dX6_put_0 : decode cX6_put 0 = .ok (.bipush 24, 2) := by decide +kernel
theorem dX6_put_2 : decode cX6_put 2 = .ok (.istore_n 2, 1) := by decide +kernel
theorem dX6_put_3 : decode cX6_put 3 = .ok (.iload_n 2, 1) := by decide +kernel
theorem dX6_put_4 : decode cX6_put 4 = .ok (.ifCond .lt 42, 3) := by decide +kernel
theorem dX6_put_7 : decode cX6_put 7 = .ok (.aload_n 0, 1) := by decide +kernel
theorem dX6_put_8 : decode cX6_put 8 = .ok (.getfield 19, 3) := by decide +kernel
theorem dX6_put_11 : decode cX6_put 11 = .ok (.sipush 700, 3) := by decide +kernel
theorem dX6_put_14 : decode cX6_put 14 = .ok (.if_icmp .ge 32, 3) := by decide +kernel
theorem dX6_put_17 : decode cX6_put 17 = .ok (.aload_n 0, 1) := by decide +kernel
theorem dX6_put_18 : decode cX6_put 18 = .ok (.getfield 11, 3) := by decide +kernel
theorem dX6_put_21 : decode cX6_put 21 = .ok (.aload_n 0, 1) := by decide +kernel
theorem dX6_put_22 : decode cX6_put 22 = .ok (.getfield 19, 3) := by decide +kernel
theorem dX6_put_25 : decode cX6_put 25 = .ok (.iload_n 1, 1) := by decide +kernel
theorem dX6_put_26 : decode cX6_put 26 = .ok (.iload_n 2, 1) := by decide +kernel
theorem dX6_put_27 : decode cX6_put 27 = .ok (.ishr, 1) := by decide +kernel
theorem dX6_put_28 : decode cX6_put 28 = .ok (.i2b, 1) := by decide +kernel
theorem dX6_put_29 : decode cX6_put 29 = .ok (.bastore, 1) := by decide +kernel
theorem dX6_put_30 : decode cX6_put 30 = .ok (.aload_n 0, 1) := by decide +kernel
theorem dX6_put_31 : decode cX6_put 31 = .ok (.dup, 1) := by decide +kernel
theorem dX6_put_32 : decode cX6_put 32 = .ok (.getfield 19, 3) := by decide +kernel
theorem dX6_put_35 : decode cX6_put 35 = .ok (.iconst 1, 1) := by decide +kernel
theorem dX6_put_36 : decode cX6_put 36 = .ok (.iadd, 1) := by decide +kernel
theorem dX6_put_37 : decode cX6_put 37 = .ok (.putfield 19, 3) := by decide +kernel
theorem dX6_put_40 : decode cX6_put 40 = .ok (.iinc 2 (-8), 3) := by decide +kernel
theorem dX6_put_43 : decode cX6_put 43 = .ok (.goto (-40), 3) := by decide +kernel
theorem dX6_put_46 : decode cX6_put 46 = .ok (.return_, 1) := by decide +kernel
theorem dX6_length_0 : decode cX6_length 0 = .ok (.aload_n 0, 1) := by decide +kernel
theorem dX6_length_1 : decode cX6_length 1 = .ok (.getfield 19, 3) := by decide +kernel
theorem dX6_length_4 : decode cX6_length 4 = .ok (.ireturn, 1) := by decide +kernel
theorem dX6_faultFound_0 : decode cX6_faultFound 0 = .ok (.aload_n 0, 1) := by decide +kernel
theorem dX6_faultFound_1 : decode cX6_faultFound 1 = .ok (.getfield 29, 3) := by decide +kernel
theorem dX6_faultFound_4 : decode cX6_faultFound 4 = .ok (.ireturn, 1) := by decide +kernel
theorem dX6_faultPlace_0 : decode cX6_faultPlace 0 = .ok (.aload_n 0, 1) := by decide +kernel
theorem dX6_faultPlace_1 : decode cX6_faultPlace 1 = .ok (.getfield 32, 3) := by decide +kernel
theorem dX6_faultPlace_4 : decode cX6_faultPlace 4 = .ok (.ireturn, 1) := by decide +kernel
theorem dX6_reads_0 : decode cX6_reads 0 = .ok (.aload_n 0, 1) := by decide +kernel
theorem dX6_reads_1 : decode cX6_reads 1 = .ok (.iconst 0, 1) := by decide +kernel
theorem dX6_reads_2 : decode cX6_reads 2 = .ok (.iload_n 1, 1) := by decide +kernel
theorem dX6_reads_3 : decode cX6_reads 3 = .ok (.aload_n 0, 1) := by decide +kernel
theorem dX6_reads_4 : decode cX6_reads 4 = .ok (.getfield 19, 3) := by decide +kernel
theorem dX6_reads_7 : decode cX6_reads 7 = .ok (.invokestatic 35, 3) := by decide +kernel
theorem dX6_reads_10 : decode cX6_reads 10 = .ok (.invokestatic 41, 3) := by decide +kernel
theorem dX6_reads_13 : decode cX6_reads 13 = .ok (.putfield 23, 3) := by decide +kernel
theorem dX6_reads_16 : decode cX6_reads 16 = .ok (.aload_n 0, 1) := by decide +kernel
theorem dX6_reads_17 : decode cX6_reads 17 = .ok (.iconst 0, 1) := by decide +kernel
theorem dX6_reads_18 : decode cX6_reads 18 = .ok (.putfield 19, 3) := by decide +kernel
theorem dX6_reads_21 : decode cX6_reads 21 = .ok (.aload_n 0, 1) := by decide +kernel
theorem dX6_reads_22 : decode cX6_reads 22 = .ok (.iconst 0, 1) := by decide +kernel
theorem dX6_reads_23 : decode cX6_reads 23 = .ok (.putfield 26, 3) := by decide +kernel
theorem dX6_reads_26 : decode cX6_reads 26 = .ok (.aload_n 0, 1) := by decide +kernel
theorem dX6_reads_27 : decode cX6_reads 27 = .ok (.iconst 0, 1) := by decide +kernel
theorem dX6_reads_28 : decode cX6_reads 28 = .ok (.putfield 29, 3) := by decide +kernel
theorem dX6_reads_31 : decode cX6_reads 31 = .ok (.aload_n 0, 1) := by decide +kernel
theorem dX6_reads_32 : decode cX6_reads 32 = .ok (.iconst (-1), 1) := by decide +kernel
theorem dX6_reads_33 : decode cX6_reads 33 = .ok (.putfield 32, 3) := by decide +kernel
theorem dX6_reads_36 : decode cX6_reads 36 = .ok (.aload_n 2, 1) := by decide +kernel
theorem dX6_reads_37 : decode cX6_reads 37 = .ok (.invokevirtual 44, 3) := by decide +kernel
theorem dX6_reads_40 : decode cX6_reads 40 = .ok (.iconst 0, 1) := by decide +kernel
theorem dX6_reads_41 : decode cX6_reads 41 = .ok (.istore_n 3, 1) := by decide +kernel
theorem dX6_reads_42 : decode cX6_reads 42 = .ok (.iload_n 3, 1) := by decide +kernel
theorem dX6_reads_43 : decode cX6_reads 43 = .ok (.aload_n 0, 1) := by decide +kernel
theorem dX6_reads_44 : decode cX6_reads 44 = .ok (.getfield 23, 3) := by decide +kernel
theorem dX6_reads_47 : decode cX6_reads 47 = .ok (.if_icmp .gt 118, 3) := by decide +kernel
theorem dX6_reads_50 : decode cX6_reads 50 = .ok (.aload_n 0, 1) := by decide +kernel
theorem dX6_reads_51 : decode cX6_reads 51 = .ok (.aload_n 2, 1) := by decide +kernel
theorem dX6_reads_52 : decode cX6_reads 52 = .ok (.invokevirtual 49, 3) := by decide +kernel
theorem dX6_reads_55 : decode cX6_reads 55 = .ok (.istore 4, 2) := by decide +kernel
theorem dX6_reads_57 : decode cX6_reads 57 = .ok (.iload 4, 2) := by decide +kernel
theorem dX6_reads_59 : decode cX6_reads 59 = .ok (.iconst (-1), 1) := by decide +kernel
theorem dX6_reads_60 : decode cX6_reads 60 = .ok (.if_icmp .eq 12, 3) := by decide +kernel
theorem dX6_reads_63 : decode cX6_reads 63 = .ok (.aload_n 0, 1) := by decide +kernel
theorem dX6_reads_64 : decode cX6_reads 64 = .ok (.iload 4, 2) := by decide +kernel
theorem dX6_reads_66 : decode cX6_reads 66 = .ok (.invokevirtual 53, 3) := by decide +kernel
theorem dX6_reads_69 : decode cX6_reads 69 = .ok (.ifCond .ne 5, 3) := by decide +kernel
theorem dX6_reads_72 : decode cX6_reads 72 = .ok (.iconst 0, 1) := by decide +kernel
theorem dX6_reads_73 : decode cX6_reads 73 = .ok (.ireturn, 1) := by decide +kernel
theorem dX6_reads_74 : decode cX6_reads 74 = .ok (.aload_n 2, 1) := by decide +kernel
theorem dX6_reads_75 : decode cX6_reads 75 = .ok (.iload 4, 2) := by decide +kernel
theorem dX6_reads_77 : decode cX6_reads 77 = .ok (.aload_n 0, 1) := by decide +kernel
theorem dX6_reads_78 : decode cX6_reads 78 = .ok (.getfield 15, 3) := by decide +kernel
theorem dX6_reads_81 : decode cX6_reads 81 = .ok (.invokevirtual 57, 3) := by decide +kernel
theorem dX6_reads_84 : decode cX6_reads 84 = .ok (.aload_n 0, 1) := by decide +kernel
theorem dX6_reads_85 : decode cX6_reads 85 = .ok (.invokevirtual 61, 3) := by decide +kernel
theorem dX6_reads_88 : decode cX6_reads 88 = .ok (.aload_n 0, 1) := by decide +kernel
theorem dX6_reads_89 : decode cX6_reads 89 = .ok (.getfield 26, 3) := by decide +kernel
theorem dX6_reads_92 : decode cX6_reads 92 = .ok (.aload_n 0, 1) := by decide +kernel
theorem dX6_reads_93 : decode cX6_reads 93 = .ok (.getfield 23, 3) := by decide +kernel
theorem dX6_reads_96 : decode cX6_reads 96 = .ok (.if_icmp .lt 29, 3) := by decide +kernel
theorem dX6_reads_99 : decode cX6_reads 99 = .ok (.aload_n 2, 1) := by decide +kernel
theorem dX6_reads_100 : decode cX6_reads 100 = .ok (.iconst 0, 1) := by decide +kernel
theorem dX6_reads_101 : decode cX6_reads 101 = .ok (.invokevirtual 64, 3) := by decide +kernel
theorem dX6_reads_104 : decode cX6_reads 104 = .ok (.ifCond .gt 15, 3) := by decide +kernel
theorem dX6_reads_107 : decode cX6_reads 107 = .ok (.aload_n 0, 1) := by decide +kernel
theorem dX6_reads_108 : decode cX6_reads 108 = .ok (.iconst 4, 1) := by decide +kernel
theorem dX6_reads_109 : decode cX6_reads 109 = .ok (.aload_n 0, 1) := by decide +kernel
theorem dX6_reads_110 : decode cX6_reads 110 = .ok (.getfield 26, 3) := by decide +kernel
theorem dX6_reads_113 : decode cX6_reads 113 = .ok (.invokevirtual 68, 3) := by decide +kernel
theorem dX6_reads_116 : decode cX6_reads 116 = .ok (.ifCond .eq 7, 3) := by decide +kernel
theorem dX6_reads_119 : decode cX6_reads 119 = .ok (.iconst 1, 1) := by decide +kernel
theorem dX6_reads_120 : decode cX6_reads 120 = .ok (.goto 4, 3) := by decide +kernel
theorem dX6_reads_123 : decode cX6_reads 123 = .ok (.iconst 0, 1) := by decide +kernel
theorem dX6_reads_124 : decode cX6_reads 124 = .ok (.ireturn, 1) := by decide +kernel
theorem dX6_reads_125 : decode cX6_reads 125 = .ok (.aload_n 0, 1) := by decide +kernel
theorem dX6_reads_126 : decode cX6_reads 126 = .ok (.getfield 11, 3) := by decide +kernel
theorem dX6_reads_129 : decode cX6_reads 129 = .ok (.aload_n 0, 1) := by decide +kernel
theorem dX6_reads_130 : decode cX6_reads 130 = .ok (.getfield 26, 3) := by decide +kernel
theorem dX6_reads_133 : decode cX6_reads 133 = .ok (.baload, 1) := by decide +kernel
theorem dX6_reads_134 : decode cX6_reads 134 = .ok (.bipush 59, 2) := by decide +kernel
theorem dX6_reads_136 : decode cX6_reads 136 = .ok (.if_icmp .eq 13, 3) := by decide +kernel
theorem dX6_reads_139 : decode cX6_reads 139 = .ok (.aload_n 0, 1) := by decide +kernel
theorem dX6_reads_140 : decode cX6_reads 140 = .ok (.iconst 1, 1) := by decide +kernel
theorem dX6_reads_141 : decode cX6_reads 141 = .ok (.aload_n 0, 1) := by decide +kernel
theorem dX6_reads_142 : decode cX6_reads 142 = .ok (.getfield 26, 3) := by decide +kernel
theorem dX6_reads_145 : decode cX6_reads 145 = .ok (.invokevirtual 68, 3) := by decide +kernel
theorem dX6_reads_148 : decode cX6_reads 148 = .ok (.ireturn, 1) := by decide +kernel
theorem dX6_reads_149 : decode cX6_reads 149 = .ok (.aload_n 0, 1) := by decide +kernel
theorem dX6_reads_150 : decode cX6_reads 150 = .ok (.dup, 1) := by decide +kernel
theorem dX6_reads_151 : decode cX6_reads 151 = .ok (.getfield 26, 3) := by decide +kernel
theorem dX6_reads_154 : decode cX6_reads 154 = .ok (.iconst 1, 1) := by decide +kernel
theorem dX6_reads_155 : decode cX6_reads 155 = .ok (.iadd, 1) := by decide +kernel
theorem dX6_reads_156 : decode cX6_reads 156 = .ok (.putfield 26, 3) := by decide +kernel
theorem dX6_reads_159 : decode cX6_reads 159 = .ok (.iinc 3 1, 3) := by decide +kernel
theorem dX6_reads_162 : decode cX6_reads 162 = .ok (.goto (-120), 3) := by decide +kernel
theorem dX6_reads_165 : decode cX6_reads 165 = .ok (.aload_n 0, 1) := by decide +kernel
theorem dX6_reads_166 : decode cX6_reads 166 = .ok (.iconst 1, 1) := by decide +kernel
theorem dX6_reads_167 : decode cX6_reads 167 = .ok (.aload_n 0, 1) := by decide +kernel
theorem dX6_reads_168 : decode cX6_reads 168 = .ok (.getfield 23, 3) := by decide +kernel
theorem dX6_reads_171 : decode cX6_reads 171 = .ok (.invokevirtual 68, 3) := by decide +kernel
theorem dX6_reads_174 : decode cX6_reads 174 = .ok (.ireturn, 1) := by decide +kernel
theorem dX6_fails_0 : decode cX6_fails 0 = .ok (.aload_n 0, 1) := by decide +kernel
theorem dX6_fails_1 : decode cX6_fails 1 = .ok (.iload_n 1, 1) := by decide +kernel
theorem dX6_fails_2 : decode cX6_fails 2 = .ok (.putfield 29, 3) := by decide +kernel
theorem dX6_fails_5 : decode cX6_fails 5 = .ok (.aload_n 0, 1) := by decide +kernel
theorem dX6_fails_6 : decode cX6_fails 6 = .ok (.iload_n 2, 1) := by decide +kernel
theorem dX6_fails_7 : decode cX6_fails 7 = .ok (.putfield 32, 3) := by decide +kernel
theorem dX6_fails_10 : decode cX6_fails 10 = .ok (.iconst 0, 1) := by decide +kernel
theorem dX6_fails_11 : decode cX6_fails 11 = .ok (.ireturn, 1) := by decide +kernel
theorem dX6_readsSort_0 : decode cX6_readsSort 0 = .ok (.aload_n 0, 1) := by decide +kernel
theorem dX6_readsSort_1 : decode cX6_readsSort 1 = .ok (.invokevirtual 61, 3) := by decide +kernel
theorem dX6_readsSort_4 : decode cX6_readsSort 4 = .ok (.aload_n 0, 1) := by decide +kernel
theorem dX6_readsSort_5 : decode cX6_readsSort 5 = .ok (.getfield 26, 3) := by decide +kernel
theorem dX6_readsSort_8 : decode cX6_readsSort 8 = .ok (.istore_n 2, 1) := by decide +kernel
theorem dX6_readsSort_9 : decode cX6_readsSort 9 = .ok (.iconst 0, 1) := by decide +kernel
theorem dX6_readsSort_10 : decode cX6_readsSort 10 = .ok (.istore_n 3, 1) := by decide +kernel
theorem dX6_readsSort_11 : decode cX6_readsSort 11 = .ok (.iload_n 3, 1) := by decide +kernel
theorem dX6_readsSort_12 : decode cX6_readsSort 12 = .ok (.iconst 4, 1) := by decide +kernel
theorem dX6_readsSort_13 : decode cX6_readsSort 13 = .ok (.if_icmp .ge 39, 3) := by decide +kernel
theorem dX6_readsSort_16 : decode cX6_readsSort 16 = .ok (.aload_n 0, 1) := by decide +kernel
theorem dX6_readsSort_17 : decode cX6_readsSort 17 = .ok (.iload_n 3, 1) := by decide +kernel
theorem dX6_readsSort_18 : decode cX6_readsSort 18 = .ok (.invokestatic 72, 3) := by decide +kernel
theorem dX6_readsSort_21 : decode cX6_readsSort 21 = .ok (.invokevirtual 76, 3) := by decide +kernel
theorem dX6_readsSort_24 : decode cX6_readsSort 24 = .ok (.ifCond .eq 22, 3) := by decide +kernel
theorem dX6_readsSort_27 : decode cX6_readsSort 27 = .ok (.aload_n 1, 1) := by decide +kernel
theorem dX6_readsSort_28 : decode cX6_readsSort 28 = .ok (.iload_n 3, 1) := by decide +kernel
theorem dX6_readsSort_29 : decode cX6_readsSort 29 = .ok (.invokevirtual 80, 3) := by decide +kernel
theorem dX6_readsSort_32 : decode cX6_readsSort 32 = .ok (.ifCond .eq 12, 3) := by decide +kernel
theorem dX6_readsSort_35 : decode cX6_readsSort 35 = .ok (.aload_n 0, 1) := by decide +kernel
theorem dX6_readsSort_36 : decode cX6_readsSort 36 = .ok (.iconst 3, 1) := by decide +kernel
theorem dX6_readsSort_37 : decode cX6_readsSort 37 = .ok (.iload_n 2, 1) := by decide +kernel
theorem dX6_readsSort_38 : decode cX6_readsSort 38 = .ok (.invokevirtual 68, 3) := by decide +kernel
theorem dX6_readsSort_41 : decode cX6_readsSort 41 = .ok (.pop, 1) := by decide +kernel
theorem dX6_readsSort_42 : decode cX6_readsSort 42 = .ok (.iconst (-1), 1) := by decide +kernel
theorem dX6_readsSort_43 : decode cX6_readsSort 43 = .ok (.ireturn, 1) := by decide +kernel
theorem dX6_readsSort_44 : decode cX6_readsSort 44 = .ok (.iload_n 3, 1) := by decide +kernel
theorem dX6_readsSort_45 : decode cX6_readsSort 45 = .ok (.ireturn, 1) := by decide +kernel
theorem dX6_readsSort_46 : decode cX6_readsSort 46 = .ok (.iinc 3 1, 3) := by decide +kernel
theorem dX6_readsSort_49 : decode cX6_readsSort 49 = .ok (.goto (-38), 3) := by decide +kernel
theorem dX6_readsSort_52 : decode cX6_readsSort 52 = .ok (.aload_n 0, 1) := by decide +kernel
theorem dX6_readsSort_53 : decode cX6_readsSort 53 = .ok (.iconst 1, 1) := by decide +kernel
theorem dX6_readsSort_54 : decode cX6_readsSort 54 = .ok (.iload_n 2, 1) := by decide +kernel
theorem dX6_readsSort_55 : decode cX6_readsSort 55 = .ok (.invokevirtual 68, 3) := by decide +kernel
theorem dX6_readsSort_58 : decode cX6_readsSort 58 = .ok (.pop, 1) := by decide +kernel
theorem dX6_readsSort_59 : decode cX6_readsSort 59 = .ok (.iconst (-1), 1) := by decide +kernel
theorem dX6_readsSort_60 : decode cX6_readsSort 60 = .ok (.ireturn, 1) := by decide +kernel
theorem dX6_lineWord_0 : decode cX6_lineWord 0 = .ok (.iload_n 0, 1) := by decide +kernel
theorem dX6_lineWord_1 : decode cX6_lineWord 1 = .ok (.tableswitch 36 0 2 #[27, 30, 33], 27) := by decide +kernel
theorem dX6_lineWord_28 : decode cX6_lineWord 28 = .ok (.ldc 83, 2) := by decide +kernel
theorem dX6_lineWord_30 : decode cX6_lineWord 30 = .ok (.areturn, 1) := by decide +kernel
theorem dX6_lineWord_31 : decode cX6_lineWord 31 = .ok (.ldc 85, 2) := by decide +kernel
theorem dX6_lineWord_33 : decode cX6_lineWord 33 = .ok (.areturn, 1) := by decide +kernel
theorem dX6_lineWord_34 : decode cX6_lineWord 34 = .ok (.ldc 87, 2) := by decide +kernel
theorem dX6_lineWord_36 : decode cX6_lineWord 36 = .ok (.areturn, 1) := by decide +kernel
theorem dX6_lineWord_37 : decode cX6_lineWord 37 = .ok (.ldc 89, 2) := by decide +kernel
theorem dX6_lineWord_39 : decode cX6_lineWord 39 = .ok (.areturn, 1) := by decide +kernel
theorem dX6_barWord_0 : decode cX6_barWord 0 = .ok (.iload_n 0, 1) := by decide +kernel
theorem dX6_barWord_1 : decode cX6_barWord 1 = .ok (.tableswitch 36 0 2 #[27, 30, 33], 27) := by decide +kernel
theorem dX6_barWord_28 : decode cX6_barWord 28 = .ok (.ldc 91, 2) := by decide +kernel
theorem dX6_barWord_30 : decode cX6_barWord 30 = .ok (.areturn, 1) := by decide +kernel
theorem dX6_barWord_31 : decode cX6_barWord 31 = .ok (.ldc 93, 2) := by decide +kernel
theorem dX6_barWord_33 : decode cX6_barWord 33 = .ok (.areturn, 1) := by decide +kernel
theorem dX6_barWord_34 : decode cX6_barWord 34 = .ok (.ldc 95, 2) := by decide +kernel
theorem dX6_barWord_36 : decode cX6_barWord 36 = .ok (.areturn, 1) := by decide +kernel
theorem dX6_barWord_37 : decode cX6_barWord 37 = .ok (.ldc 97, 2) := by decide +kernel
theorem dX6_barWord_39 : decode cX6_barWord 39 = .ok (.areturn, 1) := by decide +kernel
theorem dX6_readsRow_0 : decode cX6_readsRow 0 = .ok (.iload_n 1, 1) := by decide +kernel
theorem dX6_readsRow_1 : decode cX6_readsRow 1 = .ok (.tableswitch 47 0 2 #[27, 32, 39], 27) := by decide +kernel
theorem dX6_readsRow_28 : decode cX6_readsRow 28 = .ok (.aload_n 0, 1) := by decide +kernel
theorem dX6_readsRow_29 : decode cX6_readsRow 29 = .ok (.invokevirtual 99, 3) := by decide +kernel
theorem dX6_readsRow_32 : decode cX6_readsRow 32 = .ok (.ireturn, 1) := by decide +kernel
theorem dX6_readsRow_33 : decode cX6_readsRow 33 = .ok (.aload_n 0, 1) := by decide +kernel
theorem dX6_readsRow_34 : decode cX6_readsRow 34 = .ok (.bipush 20, 2) := by decide +kernel
theorem dX6_readsRow_36 : decode cX6_readsRow 36 = .ok (.invokevirtual 103, 3) := by decide +kernel
theorem dX6_readsRow_39 : decode cX6_readsRow 39 = .ok (.ireturn, 1) := by decide +kernel
theorem dX6_readsRow_40 : decode cX6_readsRow 40 = .ok (.aload_n 0, 1) := by decide +kernel
theorem dX6_readsRow_41 : decode cX6_readsRow 41 = .ok (.sipush 999, 3) := by decide +kernel
theorem dX6_readsRow_44 : decode cX6_readsRow 44 = .ok (.invokevirtual 103, 3) := by decide +kernel
theorem dX6_readsRow_47 : decode cX6_readsRow 47 = .ok (.ireturn, 1) := by decide +kernel
theorem dX6_readsRow_48 : decode cX6_readsRow 48 = .ok (.aload_n 0, 1) := by decide +kernel
theorem dX6_readsRow_49 : decode cX6_readsRow 49 = .ok (.iconst 0, 1) := by decide +kernel
theorem dX6_readsRow_50 : decode cX6_readsRow 50 = .ok (.invokevirtual 106, 3) := by decide +kernel
theorem dX6_readsRow_53 : decode cX6_readsRow 53 = .ok (.ifCond .eq 15, 3) := by decide +kernel
theorem dX6_readsRow_56 : decode cX6_readsRow 56 = .ok (.aload_n 0, 1) := by decide +kernel
theorem dX6_readsRow_57 : decode cX6_readsRow 57 = .ok (.iconst 2, 1) := by decide +kernel
theorem dX6_readsRow_58 : decode cX6_readsRow 58 = .ok (.invokevirtual 106, 3) := by decide +kernel
theorem dX6_readsRow_61 : decode cX6_readsRow 61 = .ok (.ifCond .eq 7, 3) := by decide +kernel
theorem dX6_readsRow_64 : decode cX6_readsRow 64 = .ok (.iconst 1, 1) := by decide +kernel
theorem dX6_readsRow_65 : decode cX6_readsRow 65 = .ok (.goto 4, 3) := by decide +kernel
theorem dX6_readsRow_68 : decode cX6_readsRow 68 = .ok (.iconst 0, 1) := by decide +kernel
theorem dX6_readsRow_69 : decode cX6_readsRow 69 = .ok (.ireturn, 1) := by decide +kernel
theorem dX6_readsBars_0 : decode cX6_readsBars 0 = .ok (.iconst 0, 1) := by decide +kernel
theorem dX6_readsBars_1 : decode cX6_readsBars 1 = .ok (.istore_n 1, 1) := by decide +kernel
theorem dX6_readsBars_2 : decode cX6_readsBars 2 = .ok (.iload_n 1, 1) := by decide +kernel
theorem dX6_readsBars_3 : decode cX6_readsBars 3 = .ok (.aload_n 0, 1) := by decide +kernel
theorem dX6_readsBars_4 : decode cX6_readsBars 4 = .ok (.getfield 15, 3) := by decide +kernel
theorem dX6_readsBars_7 : decode cX6_readsBars 7 = .ok (.arraylength, 1) := by decide +kernel
theorem dX6_readsBars_8 : decode cX6_readsBars 8 = .ok (.if_icmp .ge 47, 3) := by decide +kernel
theorem dX6_readsBars_11 : decode cX6_readsBars 11 = .ok (.aload_n 0, 1) := by decide +kernel
theorem dX6_readsBars_12 : decode cX6_readsBars 12 = .ok (.invokevirtual 61, 3) := by decide +kernel
theorem dX6_readsBars_15 : decode cX6_readsBars 15 = .ok (.aload_n 0, 1) := by decide +kernel
theorem dX6_readsBars_16 : decode cX6_readsBars 16 = .ok (.iload_n 1, 1) := by decide +kernel
theorem dX6_readsBars_17 : decode cX6_readsBars 17 = .ok (.invokestatic 109, 3) := by decide +kernel
theorem dX6_readsBars_20 : decode cX6_readsBars 20 = .ok (.invokevirtual 76, 3) := by decide +kernel
theorem dX6_readsBars_23 : decode cX6_readsBars 23 = .ok (.ifCond .ne 13, 3) := by decide +kernel
theorem dX6_readsBars_26 : decode cX6_readsBars 26 = .ok (.aload_n 0, 1) := by decide +kernel
theorem dX6_readsBars_27 : decode cX6_readsBars 27 = .ok (.iconst 1, 1) := by decide +kernel
theorem dX6_readsBars_28 : decode cX6_readsBars 28 = .ok (.aload_n 0, 1) := by decide +kernel
theorem dX6_readsBars_29 : decode cX6_readsBars 29 = .ok (.getfield 26, 3) := by decide +kernel
theorem dX6_readsBars_32 : decode cX6_readsBars 32 = .ok (.invokevirtual 68, 3) := by decide +kernel
theorem dX6_readsBars_35 : decode cX6_readsBars 35 = .ok (.ireturn, 1) := by decide +kernel
theorem dX6_readsBars_36 : decode cX6_readsBars 36 = .ok (.aload_n 0, 1) := by decide +kernel
theorem dX6_readsBars_37 : decode cX6_readsBars 37 = .ok (.iload_n 1, 1) := by decide +kernel
theorem dX6_readsBars_38 : decode cX6_readsBars 38 = .ok (.iconst 1, 1) := by decide +kernel
theorem dX6_readsBars_39 : decode cX6_readsBars 39 = .ok (.bipush 18, 2) := by decide +kernel
theorem dX6_readsBars_41 : decode cX6_readsBars 41 = .ok (.invokevirtual 112, 3) := by decide +kernel
theorem dX6_readsBars_44 : decode cX6_readsBars 44 = .ok (.ifCond .ne 5, 3) := by decide +kernel
theorem dX6_readsBars_47 : decode cX6_readsBars 47 = .ok (.iconst 0, 1) := by decide +kernel
theorem dX6_readsBars_48 : decode cX6_readsBars 48 = .ok (.ireturn, 1) := by decide +kernel
theorem dX6_readsBars_49 : decode cX6_readsBars 49 = .ok (.iinc 1 1, 3) := by decide +kernel
theorem dX6_readsBars_52 : decode cX6_readsBars 52 = .ok (.goto (-50), 3) := by decide +kernel
theorem dX6_readsBars_55 : decode cX6_readsBars 55 = .ok (.iconst 1, 1) := by decide +kernel
theorem dX6_readsBars_56 : decode cX6_readsBars 56 = .ok (.ireturn, 1) := by decide +kernel
theorem dX6_readsTwo_0 : decode cX6_readsTwo 0 = .ok (.aload_n 0, 1) := by decide +kernel
theorem dX6_readsTwo_1 : decode cX6_readsTwo 1 = .ok (.iconst 0, 1) := by decide +kernel
theorem dX6_readsTwo_2 : decode cX6_readsTwo 2 = .ok (.iload_n 1, 1) := by decide +kernel
theorem dX6_readsTwo_3 : decode cX6_readsTwo 3 = .ok (.invokevirtual 116, 3) := by decide +kernel
theorem dX6_readsTwo_6 : decode cX6_readsTwo 6 = .ok (.ifCond .eq 16, 3) := by decide +kernel
theorem dX6_readsTwo_9 : decode cX6_readsTwo 9 = .ok (.aload_n 0, 1) := by decide +kernel
theorem dX6_readsTwo_10 : decode cX6_readsTwo 10 = .ok (.iconst 1, 1) := by decide +kernel
theorem dX6_readsTwo_11 : decode cX6_readsTwo 11 = .ok (.iload_n 1, 1) := by decide +kernel
theorem dX6_readsTwo_12 : decode cX6_readsTwo 12 = .ok (.invokevirtual 116, 3) := by decide +kernel
theorem dX6_readsTwo_15 : decode cX6_readsTwo 15 = .ok (.ifCond .eq 7, 3) := by decide +kernel
theorem dX6_readsTwo_18 : decode cX6_readsTwo 18 = .ok (.iconst 1, 1) := by decide +kernel
theorem dX6_readsTwo_19 : decode cX6_readsTwo 19 = .ok (.goto 4, 3) := by decide +kernel
theorem dX6_readsTwo_22 : decode cX6_readsTwo 22 = .ok (.iconst 0, 1) := by decide +kernel
theorem dX6_readsTwo_23 : decode cX6_readsTwo 23 = .ok (.ireturn, 1) := by decide +kernel
theorem dX6_readsAngle_0 : decode cX6_readsAngle 0 = .ok (.aload_n 0, 1) := by decide +kernel
theorem dX6_readsAngle_1 : decode cX6_readsAngle 1 = .ok (.iload_n 1, 1) := by decide +kernel
theorem dX6_readsAngle_2 : decode cX6_readsAngle 2 = .ok (.iconst 5, 1) := by decide +kernel
theorem dX6_readsAngle_3 : decode cX6_readsAngle 3 = .ok (.invokevirtual 116, 3) := by decide +kernel
theorem dX6_readsAngle_6 : decode cX6_readsAngle 6 = .ok (.ifCond .eq 32, 3) := by decide +kernel
theorem dX6_readsAngle_9 : decode cX6_readsAngle 9 = .ok (.aload_n 0, 1) := by decide +kernel
theorem dX6_readsAngle_10 : decode cX6_readsAngle 10 = .ok (.iload_n 1, 1) := by decide +kernel
theorem dX6_readsAngle_11 : decode cX6_readsAngle 11 = .ok (.iconst 1, 1) := by decide +kernel
theorem dX6_readsAngle_12 : decode cX6_readsAngle 12 = .ok (.iadd, 1) := by decide +kernel
theorem dX6_readsAngle_13 : decode cX6_readsAngle 13 = .ok (.aload_n 0, 1) := by decide +kernel
theorem dX6_readsAngle_14 : decode cX6_readsAngle 14 = .ok (.getfield 15, 3) := by decide +kernel
theorem dX6_readsAngle_17 : decode cX6_readsAngle 17 = .ok (.iload_n 1, 1) := by decide +kernel
theorem dX6_readsAngle_18 : decode cX6_readsAngle 18 = .ok (.iaload, 1) := by decide +kernel
theorem dX6_readsAngle_19 : decode cX6_readsAngle 19 = .ok (.ifCond .ne 7, 3) := by decide +kernel
theorem dX6_readsAngle_22 : decode cX6_readsAngle 22 = .ok (.iconst 1, 1) := by decide +kernel
theorem dX6_readsAngle_23 : decode cX6_readsAngle 23 = .ok (.goto 4, 3) := by decide +kernel
theorem dX6_readsAngle_26 : decode cX6_readsAngle 26 = .ok (.iconst 0, 1) := by decide +kernel
theorem dX6_readsAngle_27 : decode cX6_readsAngle 27 = .ok (.iconst 5, 1) := by decide +kernel
theorem dX6_readsAngle_28 : decode cX6_readsAngle 28 = .ok (.invokevirtual 112, 3) := by decide +kernel
theorem dX6_readsAngle_31 : decode cX6_readsAngle 31 = .ok (.ifCond .eq 7, 3) := by decide +kernel
theorem dX6_readsAngle_34 : decode cX6_readsAngle 34 = .ok (.iconst 1, 1) := by decide +kernel
theorem dX6_readsAngle_35 : decode cX6_readsAngle 35 = .ok (.goto 4, 3) := by decide +kernel
theorem dX6_readsAngle_38 : decode cX6_readsAngle 38 = .ok (.iconst 0, 1) := by decide +kernel
theorem dX6_readsAngle_39 : decode cX6_readsAngle 39 = .ok (.ireturn, 1) := by decide +kernel
theorem dX6_readsSigned_0 : decode cX6_readsSigned 0 = .ok (.aload_n 0, 1) := by decide +kernel
theorem dX6_readsSigned_1 : decode cX6_readsSigned 1 = .ok (.invokevirtual 61, 3) := by decide +kernel
theorem dX6_readsSigned_4 : decode cX6_readsSigned 4 = .ok (.aload_n 0, 1) := by decide +kernel
theorem dX6_readsSigned_5 : decode cX6_readsSigned 5 = .ok (.getfield 26, 3) := by decide +kernel
theorem dX6_readsSigned_8 : decode cX6_readsSigned 8 = .ok (.aload_n 0, 1) := by decide +kernel
theorem dX6_readsSigned_9 : decode cX6_readsSigned 9 = .ok (.getfield 23, 3) := by decide +kernel
theorem dX6_readsSigned_12 : decode cX6_readsSigned 12 = .ok (.if_icmp .ge 21, 3) := by decide +kernel
theorem dX6_readsSigned_15 : decode cX6_readsSigned 15 = .ok (.aload_n 0, 1) := by decide +kernel
theorem dX6_readsSigned_16 : decode cX6_readsSigned 16 = .ok (.getfield 11, 3) := by decide +kernel
theorem dX6_readsSigned_19 : decode cX6_readsSigned 19 = .ok (.aload_n 0, 1) := by decide +kernel
theorem dX6_readsSigned_20 : decode cX6_readsSigned 20 = .ok (.getfield 26, 3) := by decide +kernel
theorem dX6_readsSigned_23 : decode cX6_readsSigned 23 = .ok (.baload, 1) := by decide +kernel
theorem dX6_readsSigned_24 : decode cX6_readsSigned 24 = .ok (.bipush 45, 2) := by decide +kernel
theorem dX6_readsSigned_26 : decode cX6_readsSigned 26 = .ok (.if_icmp .ne 7, 3) := by decide +kernel
theorem dX6_readsSigned_29 : decode cX6_readsSigned 29 = .ok (.iconst 1, 1) := by decide +kernel
theorem dX6_readsSigned_30 : decode cX6_readsSigned 30 = .ok (.goto 4, 3) := by decide +kernel
theorem dX6_readsSigned_33 : decode cX6_readsSigned 33 = .ok (.iconst 0, 1) := by decide +kernel
theorem dX6_readsSigned_34 : decode cX6_readsSigned 34 = .ok (.istore_n 3, 1) := by decide +kernel
theorem dX6_readsSigned_35 : decode cX6_readsSigned 35 = .ok (.iload_n 3, 1) := by decide +kernel
theorem dX6_readsSigned_36 : decode cX6_readsSigned 36 = .ok (.ifCond .eq 13, 3) := by decide +kernel
theorem dX6_readsSigned_39 : decode cX6_readsSigned 39 = .ok (.aload_n 0, 1) := by decide +kernel
theorem dX6_readsSigned_40 : decode cX6_readsSigned 40 = .ok (.dup, 1) := by decide +kernel
theorem dX6_readsSigned_41 : decode cX6_readsSigned 41 = .ok (.getfield 26, 3) := by decide +kernel
theorem dX6_readsSigned_44 : decode cX6_readsSigned 44 = .ok (.iconst 1, 1) := by decide +kernel
theorem dX6_readsSigned_45 : decode cX6_readsSigned 45 = .ok (.iadd, 1) := by decide +kernel
theorem dX6_readsSigned_46 : decode cX6_readsSigned 46 = .ok (.putfield 26, 3) := by decide +kernel
theorem dX6_readsSigned_49 : decode cX6_readsSigned 49 = .ok (.aload_n 0, 1) := by decide +kernel
theorem dX6_readsSigned_50 : decode cX6_readsSigned 50 = .ok (.iload_n 1, 1) := by decide +kernel
theorem dX6_readsSigned_51 : decode cX6_readsSigned 51 = .ok (.iconst 0, 1) := by decide +kernel
theorem dX6_readsSigned_52 : decode cX6_readsSigned 52 = .ok (.iload_n 2, 1) := by decide +kernel
theorem dX6_readsSigned_53 : decode cX6_readsSigned 53 = .ok (.invokevirtual 112, 3) := by decide +kernel
theorem dX6_readsSigned_56 : decode cX6_readsSigned 56 = .ok (.istore 4, 2) := by decide +kernel
theorem dX6_readsSigned_58 : decode cX6_readsSigned 58 = .ok (.iload_n 3, 1) := by decide +kernel
theorem dX6_readsSigned_59 : decode cX6_readsSigned 59 = .ok (.ifCond .eq 16, 3) := by decide +kernel
theorem dX6_readsSigned_62 : decode cX6_readsSigned 62 = .ok (.aload_n 0, 1) := by decide +kernel
theorem dX6_readsSigned_63 : decode cX6_readsSigned 63 = .ok (.getfield 15, 3) := by decide +kernel
theorem dX6_readsSigned_66 : decode cX6_readsSigned 66 = .ok (.iload_n 1, 1) := by decide +kernel
theorem dX6_readsSigned_67 : decode cX6_readsSigned 67 = .ok (.aload_n 0, 1) := by decide +kernel
theorem dX6_readsSigned_68 : decode cX6_readsSigned 68 = .ok (.getfield 15, 3) := by decide +kernel
theorem dX6_readsSigned_71 : decode cX6_readsSigned 71 = .ok (.iload_n 1, 1) := by decide +kernel
theorem dX6_readsSigned_72 : decode cX6_readsSigned 72 = .ok (.iaload, 1) := by decide +kernel
theorem dX6_readsSigned_73 : decode cX6_readsSigned 73 = .ok (.ineg, 1) := by decide +kernel
theorem dX6_readsSigned_74 : decode cX6_readsSigned 74 = .ok (.iastore, 1) := by decide +kernel
theorem dX6_readsSigned_75 : decode cX6_readsSigned 75 = .ok (.iload 4, 2) := by decide +kernel
theorem dX6_readsSigned_77 : decode cX6_readsSigned 77 = .ok (.ireturn, 1) := by decide +kernel
theorem dX6_readsWhole_0 : decode cX6_readsWhole 0 = .ok (.aload_n 0, 1) := by decide +kernel
theorem dX6_readsWhole_1 : decode cX6_readsWhole 1 = .ok (.invokevirtual 61, 3) := by decide +kernel
theorem dX6_readsWhole_4 : decode cX6_readsWhole 4 = .ok (.aload_n 0, 1) := by decide +kernel
theorem dX6_readsWhole_5 : decode cX6_readsWhole 5 = .ok (.getfield 26, 3) := by decide +kernel
theorem dX6_readsWhole_8 : decode cX6_readsWhole 8 = .ok (.istore 4, 2) := by decide +kernel
theorem dX6_readsWhole_10 : decode cX6_readsWhole 10 = .ok (.iconst 0, 1) := by decide +kernel
theorem dX6_readsWhole_11 : decode cX6_readsWhole 11 = .ok (.istore 5, 2) := by decide +kernel
theorem dX6_readsWhole_13 : decode cX6_readsWhole 13 = .ok (.aload_n 0, 1) := by decide +kernel
theorem dX6_readsWhole_14 : decode cX6_readsWhole 14 = .ok (.getfield 26, 3) := by decide +kernel
theorem dX6_readsWhole_17 : decode cX6_readsWhole 17 = .ok (.aload_n 0, 1) := by decide +kernel
theorem dX6_readsWhole_18 : decode cX6_readsWhole 18 = .ok (.getfield 23, 3) := by decide +kernel
theorem dX6_readsWhole_21 : decode cX6_readsWhole 21 = .ok (.if_icmp .ge 62, 3) := by decide +kernel
theorem dX6_readsWhole_24 : decode cX6_readsWhole 24 = .ok (.aload_n 0, 1) := by decide +kernel
theorem dX6_readsWhole_25 : decode cX6_readsWhole 25 = .ok (.getfield 26, 3) := by decide +kernel
theorem dX6_readsWhole_28 : decode cX6_readsWhole 28 = .ok (.iload 4, 2) := by decide +kernel
theorem dX6_readsWhole_30 : decode cX6_readsWhole 30 = .ok (.isub, 1) := by decide +kernel
theorem dX6_readsWhole_31 : decode cX6_readsWhole 31 = .ok (.iconst 3, 1) := by decide +kernel
theorem dX6_readsWhole_32 : decode cX6_readsWhole 32 = .ok (.if_icmp .gt 51, 3) := by decide +kernel
theorem dX6_readsWhole_35 : decode cX6_readsWhole 35 = .ok (.aload_n 0, 1) := by decide +kernel
theorem dX6_readsWhole_36 : decode cX6_readsWhole 36 = .ok (.getfield 11, 3) := by decide +kernel
theorem dX6_readsWhole_39 : decode cX6_readsWhole 39 = .ok (.aload_n 0, 1) := by decide +kernel
theorem dX6_readsWhole_40 : decode cX6_readsWhole 40 = .ok (.getfield 26, 3) := by decide +kernel
theorem dX6_readsWhole_43 : decode cX6_readsWhole 43 = .ok (.baload, 1) := by decide +kernel
theorem dX6_readsWhole_44 : decode cX6_readsWhole 44 = .ok (.invokestatic 121, 3) := by decide +kernel
theorem dX6_readsWhole_47 : decode cX6_readsWhole 47 = .ok (.ifCond .eq 36, 3) := by decide +kernel
theorem dX6_readsWhole_50 : decode cX6_readsWhole 50 = .ok (.iload 5, 2) := by decide +kernel
theorem dX6_readsWhole_52 : decode cX6_readsWhole 52 = .ok (.bipush 10, 2) := by decide +kernel
theorem dX6_readsWhole_54 : decode cX6_readsWhole 54 = .ok (.imul, 1) := by decide +kernel
theorem dX6_readsWhole_55 : decode cX6_readsWhole 55 = .ok (.aload_n 0, 1) := by decide +kernel
theorem dX6_readsWhole_56 : decode cX6_readsWhole 56 = .ok (.getfield 11, 3) := by decide +kernel
theorem dX6_readsWhole_59 : decode cX6_readsWhole 59 = .ok (.aload_n 0, 1) := by decide +kernel
theorem dX6_readsWhole_60 : decode cX6_readsWhole 60 = .ok (.getfield 26, 3) := by decide +kernel
theorem dX6_readsWhole_63 : decode cX6_readsWhole 63 = .ok (.baload, 1) := by decide +kernel
theorem dX6_readsWhole_64 : decode cX6_readsWhole 64 = .ok (.bipush 48, 2) := by decide +kernel
theorem dX6_readsWhole_66 : decode cX6_readsWhole 66 = .ok (.isub, 1) := by decide +kernel
theorem dX6_readsWhole_67 : decode cX6_readsWhole 67 = .ok (.iadd, 1) := by decide +kernel
theorem dX6_readsWhole_68 : decode cX6_readsWhole 68 = .ok (.istore 5, 2) := by decide +kernel
theorem dX6_readsWhole_70 : decode cX6_readsWhole 70 = .ok (.aload_n 0, 1) := by decide +kernel
theorem dX6_readsWhole_71 : decode cX6_readsWhole 71 = .ok (.dup, 1) := by decide +kernel
theorem dX6_readsWhole_72 : decode cX6_readsWhole 72 = .ok (.getfield 26, 3) := by decide +kernel
theorem dX6_readsWhole_75 : decode cX6_readsWhole 75 = .ok (.iconst 1, 1) := by decide +kernel
theorem dX6_readsWhole_76 : decode cX6_readsWhole 76 = .ok (.iadd, 1) := by decide +kernel
theorem dX6_readsWhole_77 : decode cX6_readsWhole 77 = .ok (.putfield 26, 3) := by decide +kernel
theorem dX6_readsWhole_80 : decode cX6_readsWhole 80 = .ok (.goto (-67), 3) := by decide +kernel
theorem dX6_readsWhole_83 : decode cX6_readsWhole 83 = .ok (.aload_n 0, 1) := by decide +kernel
theorem dX6_readsWhole_84 : decode cX6_readsWhole 84 = .ok (.getfield 26, 3) := by decide +kernel
theorem dX6_readsWhole_87 : decode cX6_readsWhole 87 = .ok (.iload 4, 2) := by decide +kernel
theorem dX6_readsWhole_89 : decode cX6_readsWhole 89 = .ok (.if_icmp .eq 14, 3) := by decide +kernel
theorem dX6_readsWhole_92 : decode cX6_readsWhole 92 = .ok (.aload_n 0, 1) := by decide +kernel
theorem dX6_readsWhole_93 : decode cX6_readsWhole 93 = .ok (.getfield 26, 3) := by decide +kernel
theorem dX6_readsWhole_96 : decode cX6_readsWhole 96 = .ok (.iload 4, 2) := by decide +kernel
theorem dX6_readsWhole_98 : decode cX6_readsWhole 98 = .ok (.isub, 1) := by decide +kernel
theorem dX6_readsWhole_99 : decode cX6_readsWhole 99 = .ok (.iconst 3, 1) := by decide +kernel
theorem dX6_readsWhole_100 : decode cX6_readsWhole 100 = .ok (.if_icmp .le 11, 3) := by decide +kernel
theorem dX6_readsWhole_103 : decode cX6_readsWhole 103 = .ok (.aload_n 0, 1) := by decide +kernel
theorem dX6_readsWhole_104 : decode cX6_readsWhole 104 = .ok (.iconst 1, 1) := by decide +kernel
theorem dX6_readsWhole_105 : decode cX6_readsWhole 105 = .ok (.iload 4, 2) := by decide +kernel
theorem dX6_readsWhole_107 : decode cX6_readsWhole 107 = .ok (.invokevirtual 68, 3) := by decide +kernel
theorem dX6_readsWhole_110 : decode cX6_readsWhole 110 = .ok (.ireturn, 1) := by decide +kernel
theorem dX6_readsWhole_111 : decode cX6_readsWhole 111 = .ok (.iload 5, 2) := by decide +kernel
theorem dX6_readsWhole_113 : decode cX6_readsWhole 113 = .ok (.iload_n 2, 1) := by decide +kernel
theorem dX6_readsWhole_114 : decode cX6_readsWhole 114 = .ok (.if_icmp .lt 9, 3) := by decide +kernel
theorem dX6_readsWhole_117 : decode cX6_readsWhole 117 = .ok (.iload 5, 2) := by decide +kernel
theorem dX6_readsWhole_119 : decode cX6_readsWhole 119 = .ok (.iload_n 3, 1) := by decide +kernel
theorem dX6_readsWhole_120 : decode cX6_readsWhole 120 = .ok (.if_icmp .le 11, 3) := by decide +kernel
theorem dX6_readsWhole_123 : decode cX6_readsWhole 123 = .ok (.aload_n 0, 1) := by decide +kernel
theorem dX6_readsWhole_124 : decode cX6_readsWhole 124 = .ok (.iconst 2, 1) := by decide +kernel
theorem dX6_readsWhole_125 : decode cX6_readsWhole 125 = .ok (.iload 4, 2) := by decide +kernel
theorem dX6_readsWhole_127 : decode cX6_readsWhole 127 = .ok (.invokevirtual 68, 3) := by decide +kernel
theorem dX6_readsWhole_130 : decode cX6_readsWhole 130 = .ok (.ireturn, 1) := by decide +kernel
theorem dX6_readsWhole_131 : decode cX6_readsWhole 131 = .ok (.aload_n 0, 1) := by decide +kernel
theorem dX6_readsWhole_132 : decode cX6_readsWhole 132 = .ok (.getfield 15, 3) := by decide +kernel
theorem dX6_readsWhole_135 : decode cX6_readsWhole 135 = .ok (.iload_n 1, 1) := by decide +kernel
theorem dX6_readsWhole_136 : decode cX6_readsWhole 136 = .ok (.iload 5, 2) := by decide +kernel
theorem dX6_readsWhole_138 : decode cX6_readsWhole 138 = .ok (.iastore, 1) := by decide +kernel
theorem dX6_readsWhole_139 : decode cX6_readsWhole 139 = .ok (.iconst 1, 1) := by decide +kernel
theorem dX6_readsWhole_140 : decode cX6_readsWhole 140 = .ok (.ireturn, 1) := by decide +kernel
theorem dX6_takesWord_0 : decode cX6_takesWord 0 = .ok (.aload_n 0, 1) := by decide +kernel
theorem dX6_takesWord_1 : decode cX6_takesWord 1 = .ok (.getfield 26, 3) := by decide +kernel
theorem dX6_takesWord_4 : decode cX6_takesWord 4 = .ok (.aload_n 1, 1) := by decide +kernel
theorem dX6_takesWord_5 : decode cX6_takesWord 5 = .ok (.invokevirtual 124, 3) := by decide +kernel
theorem dX6_takesWord_8 : decode cX6_takesWord 8 = .ok (.iadd, 1) := by decide +kernel
theorem dX6_takesWord_9 : decode cX6_takesWord 9 = .ok (.istore_n 2, 1) := by decide +kernel
theorem dX6_takesWord_10 : decode cX6_takesWord 10 = .ok (.iload_n 2, 1) := by decide +kernel
theorem dX6_takesWord_11 : decode cX6_takesWord 11 = .ok (.aload_n 0, 1) := by decide +kernel
theorem dX6_takesWord_12 : decode cX6_takesWord 12 = .ok (.getfield 23, 3) := by decide +kernel
theorem dX6_takesWord_15 : decode cX6_takesWord 15 = .ok (.if_icmp .gt 23, 3) := by decide +kernel
theorem dX6_takesWord_18 : decode cX6_takesWord 18 = .ok (.iload_n 2, 1) := by decide +kernel
theorem dX6_takesWord_19 : decode cX6_takesWord 19 = .ok (.aload_n 0, 1) := by decide +kernel
theorem dX6_takesWord_20 : decode cX6_takesWord 20 = .ok (.getfield 23, 3) := by decide +kernel
theorem dX6_takesWord_23 : decode cX6_takesWord 23 = .ok (.if_icmp .ge 17, 3) := by decide +kernel
theorem dX6_takesWord_26 : decode cX6_takesWord 26 = .ok (.aload_n 0, 1) := by decide +kernel
theorem dX6_takesWord_27 : decode cX6_takesWord 27 = .ok (.getfield 11, 3) := by decide +kernel
theorem dX6_takesWord_30 : decode cX6_takesWord 30 = .ok (.iload_n 2, 1) := by decide +kernel
theorem dX6_takesWord_31 : decode cX6_takesWord 31 = .ok (.baload, 1) := by decide +kernel
theorem dX6_takesWord_32 : decode cX6_takesWord 32 = .ok (.invokestatic 129, 3) := by decide +kernel
theorem dX6_takesWord_35 : decode cX6_takesWord 35 = .ok (.ifCond .eq 5, 3) := by decide +kernel
theorem dX6_takesWord_38 : decode cX6_takesWord 38 = .ok (.iconst 0, 1) := by decide +kernel
theorem dX6_takesWord_39 : decode cX6_takesWord 39 = .ok (.ireturn, 1) := by decide +kernel
theorem dX6_takesWord_40 : decode cX6_takesWord 40 = .ok (.iconst 0, 1) := by decide +kernel
theorem dX6_takesWord_41 : decode cX6_takesWord 41 = .ok (.istore_n 3, 1) := by decide +kernel
theorem dX6_takesWord_42 : decode cX6_takesWord 42 = .ok (.iload_n 3, 1) := by decide +kernel
theorem dX6_takesWord_43 : decode cX6_takesWord 43 = .ok (.aload_n 1, 1) := by decide +kernel
theorem dX6_takesWord_44 : decode cX6_takesWord 44 = .ok (.invokevirtual 124, 3) := by decide +kernel
theorem dX6_takesWord_47 : decode cX6_takesWord 47 = .ok (.if_icmp .ge 30, 3) := by decide +kernel
theorem dX6_takesWord_50 : decode cX6_takesWord 50 = .ok (.aload_n 0, 1) := by decide +kernel
theorem dX6_takesWord_51 : decode cX6_takesWord 51 = .ok (.getfield 11, 3) := by decide +kernel
theorem dX6_takesWord_54 : decode cX6_takesWord 54 = .ok (.aload_n 0, 1) := by decide +kernel
theorem dX6_takesWord_55 : decode cX6_takesWord 55 = .ok (.getfield 26, 3) := by decide +kernel
theorem dX6_takesWord_58 : decode cX6_takesWord 58 = .ok (.iload_n 3, 1) := by decide +kernel
theorem dX6_takesWord_59 : decode cX6_takesWord 59 = .ok (.iadd, 1) := by decide +kernel
theorem dX6_takesWord_60 : decode cX6_takesWord 60 = .ok (.baload, 1) := by decide +kernel
theorem dX6_takesWord_61 : decode cX6_takesWord 61 = .ok (.aload_n 1, 1) := by decide +kernel
theorem dX6_takesWord_62 : decode cX6_takesWord 62 = .ok (.iload_n 3, 1) := by decide +kernel
theorem dX6_takesWord_63 : decode cX6_takesWord 63 = .ok (.invokevirtual 132, 3) := by decide +kernel
theorem dX6_takesWord_66 : decode cX6_takesWord 66 = .ok (.if_icmp .eq 5, 3) := by decide +kernel
theorem dX6_takesWord_69 : decode cX6_takesWord 69 = .ok (.iconst 0, 1) := by decide +kernel
theorem dX6_takesWord_70 : decode cX6_takesWord 70 = .ok (.ireturn, 1) := by decide +kernel
theorem dX6_takesWord_71 : decode cX6_takesWord 71 = .ok (.iinc 3 1, 3) := by decide +kernel
theorem dX6_takesWord_74 : decode cX6_takesWord 74 = .ok (.goto (-32), 3) := by decide +kernel
theorem dX6_takesWord_77 : decode cX6_takesWord 77 = .ok (.aload_n 0, 1) := by decide +kernel
theorem dX6_takesWord_78 : decode cX6_takesWord 78 = .ok (.iload_n 2, 1) := by decide +kernel
theorem dX6_takesWord_79 : decode cX6_takesWord 79 = .ok (.putfield 26, 3) := by decide +kernel
theorem dX6_takesWord_82 : decode cX6_takesWord 82 = .ok (.iconst 1, 1) := by decide +kernel
theorem dX6_takesWord_83 : decode cX6_takesWord 83 = .ok (.ireturn, 1) := by decide +kernel
theorem dX6_skipBlanks_0 : decode cX6_skipBlanks 0 = .ok (.aload_n 0, 1) := by decide +kernel
theorem dX6_skipBlanks_1 : decode cX6_skipBlanks 1 = .ok (.getfield 26, 3) := by decide +kernel
theorem dX6_skipBlanks_4 : decode cX6_skipBlanks 4 = .ok (.aload_n 0, 1) := by decide +kernel
theorem dX6_skipBlanks_5 : decode cX6_skipBlanks 5 = .ok (.getfield 23, 3) := by decide +kernel
theorem dX6_skipBlanks_8 : decode cX6_skipBlanks 8 = .ok (.if_icmp .ge 30, 3) := by decide +kernel
theorem dX6_skipBlanks_11 : decode cX6_skipBlanks 11 = .ok (.aload_n 0, 1) := by decide +kernel
theorem dX6_skipBlanks_12 : decode cX6_skipBlanks 12 = .ok (.getfield 11, 3) := by decide +kernel
theorem dX6_skipBlanks_15 : decode cX6_skipBlanks 15 = .ok (.aload_n 0, 1) := by decide +kernel
theorem dX6_skipBlanks_16 : decode cX6_skipBlanks 16 = .ok (.getfield 26, 3) := by decide +kernel
theorem dX6_skipBlanks_19 : decode cX6_skipBlanks 19 = .ok (.baload, 1) := by decide +kernel
theorem dX6_skipBlanks_20 : decode cX6_skipBlanks 20 = .ok (.bipush 32, 2) := by decide +kernel
theorem dX6_skipBlanks_22 : decode cX6_skipBlanks 22 = .ok (.if_icmp .ne 16, 3) := by decide +kernel
theorem dX6_skipBlanks_25 : decode cX6_skipBlanks 25 = .ok (.aload_n 0, 1) := by decide +kernel
theorem dX6_skipBlanks_26 : decode cX6_skipBlanks 26 = .ok (.dup, 1) := by decide +kernel
theorem dX6_skipBlanks_27 : decode cX6_skipBlanks 27 = .ok (.getfield 26, 3) := by decide +kernel
theorem dX6_skipBlanks_30 : decode cX6_skipBlanks 30 = .ok (.iconst 1, 1) := by decide +kernel
theorem dX6_skipBlanks_31 : decode cX6_skipBlanks 31 = .ok (.iadd, 1) := by decide +kernel
theorem dX6_skipBlanks_32 : decode cX6_skipBlanks 32 = .ok (.putfield 26, 3) := by decide +kernel
theorem dX6_skipBlanks_35 : decode cX6_skipBlanks 35 = .ok (.goto (-35), 3) := by decide +kernel
theorem dX6_skipBlanks_38 : decode cX6_skipBlanks 38 = .ok (.return_, 1) := by decide +kernel
theorem dX6_isDigit_0 : decode cX6_isDigit 0 = .ok (.iload_n 0, 1) := by decide +kernel
theorem dX6_isDigit_1 : decode cX6_isDigit 1 = .ok (.bipush 48, 2) := by decide +kernel
theorem dX6_isDigit_3 : decode cX6_isDigit 3 = .ok (.if_icmp .lt 13, 3) := by decide +kernel
theorem dX6_isDigit_6 : decode cX6_isDigit 6 = .ok (.iload_n 0, 1) := by decide +kernel
theorem dX6_isDigit_7 : decode cX6_isDigit 7 = .ok (.bipush 57, 2) := by decide +kernel
theorem dX6_isDigit_9 : decode cX6_isDigit 9 = .ok (.if_icmp .gt 7, 3) := by decide +kernel
theorem dX6_isDigit_12 : decode cX6_isDigit 12 = .ok (.iconst 1, 1) := by decide +kernel
theorem dX6_isDigit_13 : decode cX6_isDigit 13 = .ok (.goto 4, 3) := by decide +kernel
theorem dX6_isDigit_16 : decode cX6_isDigit 16 = .ok (.iconst 0, 1) := by decide +kernel
theorem dX6_isDigit_17 : decode cX6_isDigit 17 = .ok (.ireturn, 1) := by decide +kernel
theorem dX6_isLetter_0 : decode cX6_isLetter 0 = .ok (.iload_n 0, 1) := by decide +kernel
theorem dX6_isLetter_1 : decode cX6_isLetter 1 = .ok (.bipush 97, 2) := by decide +kernel
theorem dX6_isLetter_3 : decode cX6_isLetter 3 = .ok (.if_icmp .lt 13, 3) := by decide +kernel
theorem dX6_isLetter_6 : decode cX6_isLetter 6 = .ok (.iload_n 0, 1) := by decide +kernel
theorem dX6_isLetter_7 : decode cX6_isLetter 7 = .ok (.bipush 122, 2) := by decide +kernel
theorem dX6_isLetter_9 : decode cX6_isLetter 9 = .ok (.if_icmp .gt 7, 3) := by decide +kernel
theorem dX6_isLetter_12 : decode cX6_isLetter 12 = .ok (.iconst 1, 1) := by decide +kernel
theorem dX6_isLetter_13 : decode cX6_isLetter 13 = .ok (.goto 4, 3) := by decide +kernel
theorem dX6_isLetter_16 : decode cX6_isLetter 16 = .ok (.iconst 0, 1) := by decide +kernel
theorem dX6_isLetter_17 : decode cX6_isLetter 17 = .ok (.ireturn, 1) := by decide +kernel
theorem dX7_has_0 : decode cX7_has 0 = .ok (.iload_n 0, 1) := by decide +kernel
theorem dX7_has_1 : decode cX7_has 1 = .ok (.ifCond .lt 13, 3) := by decide +kernel
theorem dX7_has_4 : decode cX7_has 4 = .ok (.iload_n 0, 1) := by decide +kernel
theorem dX7_has_5 : decode cX7_has 5 = .ok (.bipush 40, 2) := by decide +kernel
theorem dX7_has_7 : decode cX7_has 7 = .ok (.if_icmp .ge 7, 3) := by decide +kernel
theorem dX7_has_10 : decode cX7_has 10 = .ok (.iconst 1, 1) := by decide +kernel
theorem dX7_has_11 : decode cX7_has 11 = .ok (.goto 4, 3) := by decide +kernel
theorem dX7_has_14 : decode cX7_has 14 = .ok (.iconst 0, 1) := by decide +kernel
theorem dX7_has_15 : decode cX7_has 15 = .ok (.ireturn, 1) := by decide +kernel
theorem dX7_rise_0 : decode cX7_rise 0 = .ok (.iload_n 0, 1) := by decide +kernel
theorem dX7_rise_1 : decode cX7_rise 1 = .ok (.invokestatic 11, 3) := by decide +kernel
theorem dX7_rise_4 : decode cX7_rise 4 = .ok (.ifCond .eq 11, 3) := by decide +kernel
theorem dX7_rise_7 : decode cX7_rise 7 = .ok (.getstatic 15, 3) := by decide +kernel
theorem dX7_rise_10 : decode cX7_rise 10 = .ok (.iload_n 0, 1) := by decide +kernel
theorem dX7_rise_11 : decode cX7_rise 11 = .ok (.iaload, 1) := by decide +kernel
theorem dX7_rise_12 : decode cX7_rise 12 = .ok (.goto 4, 3) := by decide +kernel
theorem dX7_rise_15 : decode cX7_rise 15 = .ok (.iconst 0, 1) := by decide +kernel
theorem dX7_rise_16 : decode cX7_rise 16 = .ok (.ireturn, 1) := by decide +kernel
theorem dX7_run_0 : decode cX7_run 0 = .ok (.iload_n 0, 1) := by decide +kernel
theorem dX7_run_1 : decode cX7_run 1 = .ok (.invokestatic 11, 3) := by decide +kernel
theorem dX7_run_4 : decode cX7_run 4 = .ok (.ifCond .eq 11, 3) := by decide +kernel
theorem dX7_run_7 : decode cX7_run 7 = .ok (.getstatic 19, 3) := by decide +kernel
theorem dX7_run_10 : decode cX7_run 10 = .ok (.iload_n 0, 1) := by decide +kernel
theorem dX7_run_11 : decode cX7_run 11 = .ok (.iaload, 1) := by decide +kernel
theorem dX7_run_12 : decode cX7_run 12 = .ok (.goto 4, 3) := by decide +kernel
theorem dX7_run_15 : decode cX7_run 15 = .ok (.iconst 0, 1) := by decide +kernel
theorem dX7_run_16 : decode cX7_run 16 = .ok (.ireturn, 1) := by decide +kernel
theorem dX7_behind_0 : decode cX7_behind 0 = .ok (.iload_n 0, 1) := by decide +kernel
theorem dX7_behind_1 : decode cX7_behind 1 = .ok (.iconst 1, 1) := by decide +kernel
theorem dX7_behind_2 : decode cX7_behind 2 = .ok (.iadd, 1) := by decide +kernel
theorem dX7_behind_3 : decode cX7_behind 3 = .ok (.bipush 40, 2) := by decide +kernel
theorem dX7_behind_5 : decode cX7_behind 5 = .ok (.if_icmp .ge 9, 3) := by decide +kernel
theorem dX7_behind_8 : decode cX7_behind 8 = .ok (.iload_n 0, 1) := by decide +kernel
theorem dX7_behind_9 : decode cX7_behind 9 = .ok (.iconst 1, 1) := by decide +kernel
theorem dX7_behind_10 : decode cX7_behind 10 = .ok (.iadd, 1) := by decide +kernel
theorem dX7_behind_11 : decode cX7_behind 11 = .ok (.goto 4, 3) := by decide +kernel
theorem dX7_behind_14 : decode cX7_behind 14 = .ok (.iconst 0, 1) := by decide +kernel
theorem dX7_behind_15 : decode cX7_behind 15 = .ok (.ireturn, 1) := by decide +kernel
theorem dX7_ahead_0 : decode cX7_ahead 0 = .ok (.iload_n 0, 1) := by decide +kernel
theorem dX7_ahead_1 : decode cX7_ahead 1 = .ok (.ifCond .le 9, 3) := by decide +kernel
theorem dX7_ahead_4 : decode cX7_ahead 4 = .ok (.iload_n 0, 1) := by decide +kernel
theorem dX7_ahead_5 : decode cX7_ahead 5 = .ok (.iconst 1, 1) := by decide +kernel
theorem dX7_ahead_6 : decode cX7_ahead 6 = .ok (.isub, 1) := by decide +kernel
theorem dX7_ahead_7 : decode cX7_ahead 7 = .ok (.goto 5, 3) := by decide +kernel
theorem dX7_ahead_10 : decode cX7_ahead 10 = .ok (.bipush 39, 2) := by decide +kernel
theorem dX7_ahead_12 : decode cX7_ahead 12 = .ok (.ireturn, 1) := by decide +kernel
theorem dX7_numberOf_0 : decode cX7_numberOf 0 = .ok (.iconst 0, 1) := by decide +kernel
theorem dX7_numberOf_1 : decode cX7_numberOf 1 = .ok (.istore_n 2, 1) := by decide +kernel
theorem dX7_numberOf_2 : decode cX7_numberOf 2 = .ok (.iload_n 2, 1) := by decide +kernel
theorem dX7_numberOf_3 : decode cX7_numberOf 3 = .ok (.bipush 40, 2) := by decide +kernel
theorem dX7_numberOf_5 : decode cX7_numberOf 5 = .ok (.if_icmp .ge 28, 3) := by decide +kernel
theorem dX7_numberOf_8 : decode cX7_numberOf 8 = .ok (.getstatic 15, 3) := by decide +kernel
theorem dX7_numberOf_11 : decode cX7_numberOf 11 = .ok (.iload_n 2, 1) := by decide +kernel
theorem dX7_numberOf_12 : decode cX7_numberOf 12 = .ok (.iaload, 1) := by decide +kernel
theorem dX7_numberOf_13 : decode cX7_numberOf 13 = .ok (.iload_n 1, 1) := by decide +kernel
theorem dX7_numberOf_14 : decode cX7_numberOf 14 = .ok (.imul, 1) := by decide +kernel
theorem dX7_numberOf_15 : decode cX7_numberOf 15 = .ok (.getstatic 19, 3) := by decide +kernel
theorem dX7_numberOf_18 : decode cX7_numberOf 18 = .ok (.iload_n 2, 1) := by decide +kernel
theorem dX7_numberOf_19 : decode cX7_numberOf 19 = .ok (.iaload, 1) := by decide +kernel
theorem dX7_numberOf_20 : decode cX7_numberOf 20 = .ok (.iload_n 0, 1) := by decide +kernel
theorem dX7_numberOf_21 : decode cX7_numberOf 21 = .ok (.imul, 1) := by decide +kernel
theorem dX7_numberOf_22 : decode cX7_numberOf 22 = .ok (.if_icmp .ne 5, 3) := by decide +kernel
theorem dX7_numberOf_25 : decode cX7_numberOf 25 = .ok (.iload_n 2, 1) := by decide +kernel
theorem dX7_numberOf_26 : decode cX7_numberOf 26 = .ok (.ireturn, 1) := by decide +kernel
theorem dX7_numberOf_27 : decode cX7_numberOf 27 = .ok (.iinc 2 1, 3) := by decide +kernel
theorem dX7_numberOf_30 : decode cX7_numberOf 30 = .ok (.goto (-28), 3) := by decide +kernel
theorem dX7_numberOf_33 : decode cX7_numberOf 33 = .ok (.iconst (-1), 1) := by decide +kernel
theorem dX7_numberOf_34 : decode cX7_numberOf 34 = .ok (.ireturn, 1) := by decide +kernel
theorem dX7_norm_0 : decode cX7_norm 0 = .ok (.iload_n 0, 1) := by decide +kernel
theorem dX7_norm_1 : decode cX7_norm 1 = .ok (.iload_n 0, 1) := by decide +kernel
theorem dX7_norm_2 : decode cX7_norm 2 = .ok (.imul, 1) := by decide +kernel
theorem dX7_norm_3 : decode cX7_norm 3 = .ok (.iload_n 1, 1) := by decide +kernel
theorem dX7_norm_4 : decode cX7_norm 4 = .ok (.iload_n 1, 1) := by decide +kernel
theorem dX7_norm_5 : decode cX7_norm 5 = .ok (.imul, 1) := by decide +kernel
theorem dX7_norm_6 : decode cX7_norm 6 = .ok (.iadd, 1) := by decide +kernel
theorem dX7_norm_7 : decode cX7_norm 7 = .ok (.ireturn, 1) := by decide +kernel
theorem dX7_cosine_0 : decode cX7_cosine 0 = .ok (.iload_n 1, 1) := by decide +kernel
theorem dX7_cosine_1 : decode cX7_cosine 1 = .ok (.iload_n 1, 1) := by decide +kernel
theorem dX7_cosine_2 : decode cX7_cosine 2 = .ok (.imul, 1) := by decide +kernel
theorem dX7_cosine_3 : decode cX7_cosine 3 = .ok (.iload_n 0, 1) := by decide +kernel
theorem dX7_cosine_4 : decode cX7_cosine 4 = .ok (.iload_n 0, 1) := by decide +kernel
theorem dX7_cosine_5 : decode cX7_cosine 5 = .ok (.imul, 1) := by decide +kernel
theorem dX7_cosine_6 : decode cX7_cosine 6 = .ok (.isub, 1) := by decide +kernel
theorem dX7_cosine_7 : decode cX7_cosine 7 = .ok (.ireturn, 1) := by decide +kernel
theorem dX7_sine_0 : decode cX7_sine 0 = .ok (.iconst 2, 1) := by decide +kernel
theorem dX7_sine_1 : decode cX7_sine 1 = .ok (.iload_n 0, 1) := by decide +kernel
theorem dX7_sine_2 : decode cX7_sine 2 = .ok (.imul, 1) := by decide +kernel
theorem dX7_sine_3 : decode cX7_sine 3 = .ok (.iload_n 1, 1) := by decide +kernel
theorem dX7_sine_4 : decode cX7_sine 4 = .ok (.imul, 1) := by decide +kernel
theorem dX7_sine_5 : decode cX7_sine 5 = .ok (.ireturn, 1) := by decide +kernel
theorem dX8_init_0 : decode cX8_init 0 = .ok (.aload_n 0, 1) := by decide +kernel
theorem dX8_init_1 : decode cX8_init 1 = .ok (.invokespecial 5, 3) := by decide +kernel
theorem dX8_init_4 : decode cX8_init 4 = .ok (.aload_n 0, 1) := by decide +kernel
theorem dX8_init_5 : decode cX8_init 5 = .ok (.bipush 40, 2) := by decide +kernel
theorem dX8_init_7 : decode cX8_init 7 = .ok (.newarray .int, 2) := by decide +kernel
theorem dX8_init_9 : decode cX8_init 9 = .ok (.putfield 11, 3) := by decide +kernel
theorem dX8_init_12 : decode cX8_init 12 = .ok (.aload_n 0, 1) := by decide +kernel
theorem dX8_init_13 : decode cX8_init 13 = .ok (.bipush 80, 2) := by decide +kernel
theorem dX8_init_15 : decode cX8_init 15 = .ok (.newarray .int, 2) := by decide +kernel
theorem dX8_init_17 : decode cX8_init 17 = .ok (.putfield 17, 3) := by decide +kernel
theorem dX8_init_20 : decode cX8_init 20 = .ok (.aload_n 0, 1) := by decide +kernel
theorem dX8_init_21 : decode cX8_init 21 = .ok (.bipush 80, 2) := by decide +kernel
theorem dX8_init_23 : decode cX8_init 23 = .ok (.newarray .int, 2) := by decide +kernel
theorem dX8_init_25 : decode cX8_init 25 = .ok (.putfield 20, 3) := by decide +kernel
theorem dX8_init_28 : decode cX8_init 28 = .ok (.aload_n 0, 1) := by decide +kernel
theorem dX8_init_29 : decode cX8_init 29 = .ok (.iconst 0, 1) := by decide +kernel
theorem dX8_init_30 : decode cX8_init 30 = .ok (.putfield 23, 3) := by decide +kernel
theorem dX8_init_33 : decode cX8_init 33 = .ok (.aload_n 0, 1) := by decide +kernel
theorem dX8_init_34 : decode cX8_init 34 = .ok (.iconst (-1), 1) := by decide +kernel
theorem dX8_init_35 : decode cX8_init 35 = .ok (.putfield 27, 3) := by decide +kernel
theorem dX8_init_38 : decode cX8_init 38 = .ok (.aload_n 0, 1) := by decide +kernel
theorem dX8_init_39 : decode cX8_init 39 = .ok (.iconst 0, 1) := by decide +kernel
theorem dX8_init_40 : decode cX8_init 40 = .ok (.putfield 30, 3) := by decide +kernel
theorem dX8_init_43 : decode cX8_init 43 = .ok (.aload_n 0, 1) := by decide +kernel
theorem dX8_init_44 : decode cX8_init 44 = .ok (.iconst 0, 1) := by decide +kernel
theorem dX8_init_45 : decode cX8_init 45 = .ok (.putfield 33, 3) := by decide +kernel
theorem dX8_init_48 : decode cX8_init 48 = .ok (.aload_n 0, 1) := by decide +kernel
theorem dX8_init_49 : decode cX8_init 49 = .ok (.iconst 0, 1) := by decide +kernel
theorem dX8_init_50 : decode cX8_init 50 = .ok (.putfield 36, 3) := by decide +kernel
theorem dX8_init_53 : decode cX8_init 53 = .ok (.return_, 1) := by decide +kernel
theorem dX8_isOn_0 : decode cX8_isOn 0 = .ok (.aload_n 0, 1) := by decide +kernel
theorem dX8_isOn_1 : decode cX8_isOn 1 = .ok (.getfield 27, 3) := by decide +kernel
theorem dX8_isOn_4 : decode cX8_isOn 4 = .ok (.iconst (-1), 1) := by decide +kernel
theorem dX8_isOn_5 : decode cX8_isOn 5 = .ok (.if_icmp .eq 7, 3) := by decide +kernel
theorem dX8_isOn_8 : decode cX8_isOn 8 = .ok (.iconst 1, 1) := by decide +kernel
theorem dX8_isOn_9 : decode cX8_isOn 9 = .ok (.goto 4, 3) := by decide +kernel
theorem dX8_isOn_12 : decode cX8_isOn 12 = .ok (.iconst 0, 1) := by decide +kernel
theorem dX8_isOn_13 : decode cX8_isOn 13 = .ok (.ireturn, 1) := by decide +kernel
theorem dX8_stop_0 : decode cX8_stop 0 = .ok (.aload_n 0, 1) := by decide +kernel
theorem dX8_stop_1 : decode cX8_stop 1 = .ok (.iconst (-1), 1) := by decide +kernel
theorem dX8_stop_2 : decode cX8_stop 2 = .ok (.putfield 27, 3) := by decide +kernel
theorem dX8_stop_5 : decode cX8_stop 5 = .ok (.return_, 1) := by decide +kernel
theorem dX8_learn_0 : decode cX8_learn 0 = .ok (.iload_n 1, 1) := by decide +kernel
theorem dX8_learn_1 : decode cX8_learn 1 = .ok (.invokestatic 39, 3) := by decide +kernel
theorem dX8_learn_4 : decode cX8_learn 4 = .ok (.ifCond .eq 10, 3) := by decide +kernel
theorem dX8_learn_7 : decode cX8_learn 7 = .ok (.aload_n 0, 1) := by decide +kernel
theorem dX8_learn_8 : decode cX8_learn 8 = .ok (.getfield 11, 3) := by decide +kernel
theorem dX8_learn_11 : decode cX8_learn 11 = .ok (.iload_n 1, 1) := by decide +kernel
theorem dX8_learn_12 : decode cX8_learn 12 = .ok (.iload_n 2, 1) := by decide +kernel
theorem dX8_learn_13 : decode cX8_learn 13 = .ok (.iastore, 1) := by decide +kernel
theorem dX8_learn_14 : decode cX8_learn 14 = .ok (.return_, 1) := by decide +kernel
theorem dX8_start_0 : decode cX8_start 0 = .ok (.aload_n 0, 1) := by decide +kernel
theorem dX8_start_1 : decode cX8_start 1 = .ok (.iload_n 1, 1) := by decide +kernel
theorem dX8_start_2 : decode cX8_start 2 = .ok (.putfield 27, 3) := by decide +kernel
theorem dX8_start_5 : decode cX8_start 5 = .ok (.aload_n 0, 1) := by decide +kernel
theorem dX8_start_6 : decode cX8_start 6 = .ok (.iload_n 2, 1) := by decide +kernel
theorem dX8_start_7 : decode cX8_start 7 = .ok (.invokestatic 39, 3) := by decide +kernel
theorem dX8_start_10 : decode cX8_start 10 = .ok (.ifCond .eq 7, 3) := by decide +kernel
theorem dX8_start_13 : decode cX8_start 13 = .ok (.iload_n 2, 1) := by decide +kernel
theorem dX8_start_14 : decode cX8_start 14 = .ok (.goto 4, 3) := by decide +kernel
theorem dX8_start_17 : decode cX8_start 17 = .ok (.iconst 0, 1) := by decide +kernel
theorem dX8_start_18 : decode cX8_start 18 = .ok (.putfield 30, 3) := by decide +kernel
theorem dX8_start_21 : decode cX8_start 21 = .ok (.aload_n 0, 1) := by decide +kernel
theorem dX8_start_22 : decode cX8_start 22 = .ok (.iload_n 3, 1) := by decide +kernel
theorem dX8_start_23 : decode cX8_start 23 = .ok (.ifCond .ne 7, 3) := by decide +kernel
theorem dX8_start_26 : decode cX8_start 26 = .ok (.iconst 0, 1) := by decide +kernel
theorem dX8_start_27 : decode cX8_start 27 = .ok (.goto 4, 3) := by decide +kernel
theorem dX8_start_30 : decode cX8_start 30 = .ok (.iconst 1, 1) := by decide +kernel
theorem dX8_start_31 : decode cX8_start 31 = .ok (.putfield 33, 3) := by decide +kernel
theorem dX8_start_34 : decode cX8_start 34 = .ok (.aload_n 0, 1) := by decide +kernel
theorem dX8_start_35 : decode cX8_start 35 = .ok (.iconst 0, 1) := by decide +kernel
theorem dX8_start_36 : decode cX8_start 36 = .ok (.putfield 36, 3) := by decide +kernel
theorem dX8_start_39 : decode cX8_start 39 = .ok (.return_, 1) := by decide +kernel
theorem dX8_told_0 : decode cX8_told 0 = .ok (.iload_n 1, 1) := by decide +kernel
theorem dX8_told_1 : decode cX8_told 1 = .ok (.tableswitch 42 0 2 #[27, 32, 37], 27) := by decide +kernel
theorem dX8_told_28 : decode cX8_told 28 = .ok (.aload_n 0, 1) := by decide +kernel
theorem dX8_told_29 : decode cX8_told 29 = .ok (.getfield 27, 3) := by decide +kernel
theorem dX8_told_32 : decode cX8_told 32 = .ok (.ireturn, 1) := by decide +kernel
theorem dX8_told_33 : decode cX8_told 33 = .ok (.aload_n 0, 1) := by decide +kernel
theorem dX8_told_34 : decode cX8_told 34 = .ok (.getfield 30, 3) := by decide +kernel
theorem dX8_told_37 : decode cX8_told 37 = .ok (.ireturn, 1) := by decide +kernel
theorem dX8_told_38 : decode cX8_told 38 = .ok (.aload_n 0, 1) := by decide +kernel
theorem dX8_told_39 : decode cX8_told 39 = .ok (.getfield 33, 3) := by decide +kernel
theorem dX8_told_42 : decode cX8_told 42 = .ok (.ireturn, 1) := by decide +kernel
theorem dX8_told_43 : decode cX8_told 43 = .ok (.aload_n 0, 1) := by decide +kernel
theorem dX8_told_44 : decode cX8_told 44 = .ok (.getfield 36, 3) := by decide +kernel
theorem dX8_told_47 : decode cX8_told 47 = .ok (.ireturn, 1) := by decide +kernel
theorem dX8_go_0 : decode cX8_go 0 = .ok (.iconst 0, 1) := by decide +kernel
theorem dX8_go_1 : decode cX8_go 1 = .ok (.istore_n 3, 1) := by decide +kernel
theorem dX8_go_2 : decode cX8_go 2 = .ok (.iload_n 3, 1) := by decide +kernel
theorem dX8_go_3 : decode cX8_go 3 = .ok (.iload_n 1, 1) := by decide +kernel
theorem dX8_go_4 : decode cX8_go 4 = .ok (.if_icmp .ge 60, 3) := by decide +kernel
theorem dX8_go_7 : decode cX8_go 7 = .ok (.iload_n 2, 1) := by decide +kernel
theorem dX8_go_8 : decode cX8_go 8 = .ok (.ifCond .eq 13, 3) := by decide +kernel
theorem dX8_go_11 : decode cX8_go 11 = .ok (.aload_n 0, 1) := by decide +kernel
theorem dX8_go_12 : decode cX8_go 12 = .ok (.getfield 30, 3) := by decide +kernel
theorem dX8_go_15 : decode cX8_go 15 = .ok (.invokestatic 43, 3) := by decide +kernel
theorem dX8_go_18 : decode cX8_go 18 = .ok (.goto 10, 3) := by decide +kernel
theorem dX8_go_21 : decode cX8_go 21 = .ok (.aload_n 0, 1) := by decide +kernel
theorem dX8_go_22 : decode cX8_go 22 = .ok (.getfield 30, 3) := by decide +kernel
theorem dX8_go_25 : decode cX8_go 25 = .ok (.invokestatic 47, 3) := by decide +kernel
theorem dX8_go_28 : decode cX8_go 28 = .ok (.istore 4, 2) := by decide +kernel
theorem dX8_go_30 : decode cX8_go 30 = .ok (.aload_n 0, 1) := by decide +kernel
theorem dX8_go_31 : decode cX8_go 31 = .ok (.getfield 11, 3) := by decide +kernel
theorem dX8_go_34 : decode cX8_go 34 = .ok (.iload 4, 2) := by decide +kernel
theorem dX8_go_36 : decode cX8_go 36 = .ok (.iaload, 1) := by decide +kernel
theorem dX8_go_37 : decode cX8_go 37 = .ok (.ifCond .ne 5, 3) := by decide +kernel
theorem dX8_go_40 : decode cX8_go 40 = .ok (.iload_n 3, 1) := by decide +kernel
theorem dX8_go_41 : decode cX8_go 41 = .ok (.ireturn, 1) := by decide +kernel
theorem dX8_go_42 : decode cX8_go 42 = .ok (.aload_n 0, 1) := by decide +kernel
theorem dX8_go_43 : decode cX8_go 43 = .ok (.iload 4, 2) := by decide +kernel
theorem dX8_go_45 : decode cX8_go 45 = .ok (.putfield 30, 3) := by decide +kernel
theorem dX8_go_48 : decode cX8_go 48 = .ok (.aload_n 0, 1) := by decide +kernel
theorem dX8_go_49 : decode cX8_go 49 = .ok (.dup, 1) := by decide +kernel
theorem dX8_go_50 : decode cX8_go 50 = .ok (.getfield 36, 3) := by decide +kernel
theorem dX8_go_53 : decode cX8_go 53 = .ok (.iconst 1, 1) := by decide +kernel
theorem dX8_go_54 : decode cX8_go 54 = .ok (.iadd, 1) := by decide +kernel
theorem dX8_go_55 : decode cX8_go 55 = .ok (.putfield 36, 3) := by decide +kernel
theorem dX8_go_58 : decode cX8_go 58 = .ok (.iinc 3 1, 3) := by decide +kernel
theorem dX8_go_61 : decode cX8_go 61 = .ok (.goto (-59), 3) := by decide +kernel
theorem dX8_go_64 : decode cX8_go 64 = .ok (.iload_n 1, 1) := by decide +kernel
theorem dX8_go_65 : decode cX8_go 65 = .ok (.ireturn, 1) := by decide +kernel
theorem dX8_isAtDead_0 : decode cX8_isAtDead 0 = .ok (.aload_n 0, 1) := by decide +kernel
theorem dX8_isAtDead_1 : decode cX8_isAtDead 1 = .ok (.getfield 11, 3) := by decide +kernel
theorem dX8_isAtDead_4 : decode cX8_isAtDead 4 = .ok (.aload_n 0, 1) := by decide +kernel
theorem dX8_isAtDead_5 : decode cX8_isAtDead 5 = .ok (.getfield 30, 3) := by decide +kernel
theorem dX8_isAtDead_8 : decode cX8_isAtDead 8 = .ok (.iaload, 1) := by decide +kernel
theorem dX8_isAtDead_9 : decode cX8_isAtDead 9 = .ok (.iconst 2, 1) := by decide +kernel
theorem dX8_isAtDead_10 : decode cX8_isAtDead 10 = .ok (.if_icmp .ne 7, 3) := by decide +kernel
theorem dX8_isAtDead_13 : decode cX8_isAtDead 13 = .ok (.iconst 1, 1) := by decide +kernel
theorem dX8_isAtDead_14 : decode cX8_isAtDead 14 = .ok (.goto 4, 3) := by decide +kernel
theorem dX8_isAtDead_17 : decode cX8_isAtDead 17 = .ok (.iconst 0, 1) := by decide +kernel
theorem dX8_isAtDead_18 : decode cX8_isAtDead 18 = .ok (.ireturn, 1) := by decide +kernel
theorem dX8_change_0 : decode cX8_change 0 = .ok (.aload_n 0, 1) := by decide +kernel
theorem dX8_change_1 : decode cX8_change 1 = .ok (.iconst 1, 1) := by decide +kernel
theorem dX8_change_2 : decode cX8_change 2 = .ok (.aload_n 0, 1) := by decide +kernel
theorem dX8_change_3 : decode cX8_change 3 = .ok (.getfield 33, 3) := by decide +kernel
theorem dX8_change_6 : decode cX8_change 6 = .ok (.isub, 1) := by decide +kernel
theorem dX8_change_7 : decode cX8_change 7 = .ok (.putfield 33, 3) := by decide +kernel
theorem dX8_change_10 : decode cX8_change 10 = .ok (.aload_n 0, 1) := by decide +kernel
theorem dX8_change_11 : decode cX8_change 11 = .ok (.dup, 1) := by decide +kernel
theorem dX8_change_12 : decode cX8_change 12 = .ok (.getfield 36, 3) := by decide +kernel
theorem dX8_change_15 : decode cX8_change 15 = .ok (.iconst 1, 1) := by decide +kernel
theorem dX8_change_16 : decode cX8_change 16 = .ok (.iadd, 1) := by decide +kernel
theorem dX8_change_17 : decode cX8_change 17 = .ok (.putfield 36, 3) := by decide +kernel
theorem dX8_change_20 : decode cX8_change 20 = .ok (.aload_n 0, 1) := by decide +kernel
theorem dX8_change_21 : decode cX8_change 21 = .ok (.getfield 33, 3) := by decide +kernel
theorem dX8_change_24 : decode cX8_change 24 = .ok (.ireturn, 1) := by decide +kernel
theorem dX8_fewestTo_0 : decode cX8_fewestTo 0 = .ok (.aload_n 0, 1) := by decide +kernel
theorem dX8_fewestTo_1 : decode cX8_fewestTo 1 = .ok (.getfield 17, 3) := by decide +kernel
theorem dX8_fewestTo_4 : decode cX8_fewestTo 4 = .ok (.bipush (-2), 2) := by decide +kernel
theorem dX8_fewestTo_6 : decode cX8_fewestTo 6 = .ok (.invokestatic 52, 3) := by decide +kernel
theorem dX8_fewestTo_9 : decode cX8_fewestTo 9 = .ok (.aload_n 0, 1) := by decide +kernel
theorem dX8_fewestTo_10 : decode cX8_fewestTo 10 = .ok (.iconst 0, 1) := by decide +kernel
theorem dX8_fewestTo_11 : decode cX8_fewestTo 11 = .ok (.putfield 23, 3) := by decide +kernel
theorem dX8_fewestTo_14 : decode cX8_fewestTo 14 = .ok (.aload_n 0, 1) := by decide +kernel
theorem dX8_fewestTo_15 : decode cX8_fewestTo 15 = .ok (.aload_n 0, 1) := by decide +kernel
theorem dX8_fewestTo_16 : decode cX8_fewestTo 16 = .ok (.getfield 30, 3) := by decide +kernel
theorem dX8_fewestTo_19 : decode cX8_fewestTo 19 = .ok (.aload_n 0, 1) := by decide +kernel
theorem dX8_fewestTo_20 : decode cX8_fewestTo 20 = .ok (.getfield 33, 3) := by decide +kernel
theorem dX8_fewestTo_23 : decode cX8_fewestTo 23 = .ok (.iconst 0, 1) := by decide +kernel
theorem dX8_fewestTo_24 : decode cX8_fewestTo 24 = .ok (.invokevirtual 58, 3) := by decide +kernel
theorem dX8_fewestTo_27 : decode cX8_fewestTo 27 = .ok (.iconst 0, 1) := by decide +kernel
theorem dX8_fewestTo_28 : decode cX8_fewestTo 28 = .ok (.istore_n 3, 1) := by decide +kernel
theorem dX8_fewestTo_29 : decode cX8_fewestTo 29 = .ok (.iload_n 3, 1) := by decide +kernel
theorem dX8_fewestTo_30 : decode cX8_fewestTo 30 = .ok (.aload_n 0, 1) := by decide +kernel
theorem dX8_fewestTo_31 : decode cX8_fewestTo 31 = .ok (.getfield 23, 3) := by decide +kernel
theorem dX8_fewestTo_34 : decode cX8_fewestTo 34 = .ok (.if_icmp .ge 93, 3) := by decide +kernel
theorem dX8_fewestTo_37 : decode cX8_fewestTo 37 = .ok (.aload_n 0, 1) := by decide +kernel
theorem dX8_fewestTo_38 : decode cX8_fewestTo 38 = .ok (.getfield 20, 3) := by decide +kernel
theorem dX8_fewestTo_41 : decode cX8_fewestTo 41 = .ok (.iload_n 3, 1) := by decide +kernel
theorem dX8_fewestTo_42 : decode cX8_fewestTo 42 = .ok (.iaload, 1) := by decide +kernel
theorem dX8_fewestTo_43 : decode cX8_fewestTo 43 = .ok (.iconst 2, 1) := by decide +kernel
theorem dX8_fewestTo_44 : decode cX8_fewestTo 44 = .ok (.idiv, 1) := by decide +kernel
theorem dX8_fewestTo_45 : decode cX8_fewestTo 45 = .ok (.istore 4, 2) := by decide +kernel
theorem dX8_fewestTo_47 : decode cX8_fewestTo 47 = .ok (.aload_n 0, 1) := by decide +kernel
theorem dX8_fewestTo_48 : decode cX8_fewestTo 48 = .ok (.getfield 20, 3) := by decide +kernel
theorem dX8_fewestTo_51 : decode cX8_fewestTo 51 = .ok (.iload_n 3, 1) := by decide +kernel
theorem dX8_fewestTo_52 : decode cX8_fewestTo 52 = .ok (.iaload, 1) := by decide +kernel
theorem dX8_fewestTo_53 : decode cX8_fewestTo 53 = .ok (.iconst 2, 1) := by decide +kernel
theorem dX8_fewestTo_54 : decode cX8_fewestTo 54 = .ok (.irem, 1) := by decide +kernel
theorem dX8_fewestTo_55 : decode cX8_fewestTo 55 = .ok (.istore 5, 2) := by decide +kernel
theorem dX8_fewestTo_57 : decode cX8_fewestTo 57 = .ok (.aload_n 0, 1) := by decide +kernel
theorem dX8_fewestTo_58 : decode cX8_fewestTo 58 = .ok (.getfield 17, 3) := by decide +kernel
theorem dX8_fewestTo_61 : decode cX8_fewestTo 61 = .ok (.aload_n 0, 1) := by decide +kernel
theorem dX8_fewestTo_62 : decode cX8_fewestTo 62 = .ok (.getfield 20, 3) := by decide +kernel
theorem dX8_fewestTo_65 : decode cX8_fewestTo 65 = .ok (.iload_n 3, 1) := by decide +kernel
theorem dX8_fewestTo_66 : decode cX8_fewestTo 66 = .ok (.iaload, 1) := by decide +kernel
theorem dX8_fewestTo_67 : decode cX8_fewestTo 67 = .ok (.iaload, 1) := by decide +kernel
theorem dX8_fewestTo_68 : decode cX8_fewestTo 68 = .ok (.iconst 1, 1) := by decide +kernel
theorem dX8_fewestTo_69 : decode cX8_fewestTo 69 = .ok (.iadd, 1) := by decide +kernel
theorem dX8_fewestTo_70 : decode cX8_fewestTo 70 = .ok (.istore 6, 2) := by decide +kernel
theorem dX8_fewestTo_72 : decode cX8_fewestTo 72 = .ok (.aload_n 0, 1) := by decide +kernel
theorem dX8_fewestTo_73 : decode cX8_fewestTo 73 = .ok (.iload 4, 2) := by decide +kernel
theorem dX8_fewestTo_75 : decode cX8_fewestTo 75 = .ok (.invokestatic 47, 3) := by decide +kernel
theorem dX8_fewestTo_78 : decode cX8_fewestTo 78 = .ok (.iload 5, 2) := by decide +kernel
theorem dX8_fewestTo_80 : decode cX8_fewestTo 80 = .ok (.iload 6, 2) := by decide +kernel
theorem dX8_fewestTo_82 : decode cX8_fewestTo 82 = .ok (.invokevirtual 58, 3) := by decide +kernel
theorem dX8_fewestTo_85 : decode cX8_fewestTo 85 = .ok (.aload_n 0, 1) := by decide +kernel
theorem dX8_fewestTo_86 : decode cX8_fewestTo 86 = .ok (.iload 4, 2) := by decide +kernel
theorem dX8_fewestTo_88 : decode cX8_fewestTo 88 = .ok (.invokestatic 43, 3) := by decide +kernel
theorem dX8_fewestTo_91 : decode cX8_fewestTo 91 = .ok (.iload 5, 2) := by decide +kernel
theorem dX8_fewestTo_93 : decode cX8_fewestTo 93 = .ok (.iload 6, 2) := by decide +kernel
theorem dX8_fewestTo_95 : decode cX8_fewestTo 95 = .ok (.invokevirtual 58, 3) := by decide +kernel
theorem dX8_fewestTo_98 : decode cX8_fewestTo 98 = .ok (.aload_n 0, 1) := by decide +kernel
theorem dX8_fewestTo_99 : decode cX8_fewestTo 99 = .ok (.getfield 11, 3) := by decide +kernel
theorem dX8_fewestTo_102 : decode cX8_fewestTo 102 = .ok (.iload 4, 2) := by decide +kernel
theorem dX8_fewestTo_104 : decode cX8_fewestTo 104 = .ok (.iaload, 1) := by decide +kernel
theorem dX8_fewestTo_105 : decode cX8_fewestTo 105 = .ok (.iconst 2, 1) := by decide +kernel
theorem dX8_fewestTo_106 : decode cX8_fewestTo 106 = .ok (.if_icmp .ne 15, 3) := by decide +kernel
theorem dX8_fewestTo_109 : decode cX8_fewestTo 109 = .ok (.aload_n 0, 1) := by decide +kernel
theorem dX8_fewestTo_110 : decode cX8_fewestTo 110 = .ok (.iload 4, 2) := by decide +kernel
theorem dX8_fewestTo_112 : decode cX8_fewestTo 112 = .ok (.iconst 1, 1) := by decide +kernel
theorem dX8_fewestTo_113 : decode cX8_fewestTo 113 = .ok (.iload 5, 2) := by decide +kernel
theorem dX8_fewestTo_115 : decode cX8_fewestTo 115 = .ok (.isub, 1) := by decide +kernel
theorem dX8_fewestTo_116 : decode cX8_fewestTo 116 = .ok (.iload 6, 2) := by decide +kernel
theorem dX8_fewestTo_118 : decode cX8_fewestTo 118 = .ok (.invokevirtual 58, 3) := by decide +kernel
theorem dX8_fewestTo_121 : decode cX8_fewestTo 121 = .ok (.iinc 3 1, 3) := by decide +kernel
theorem dX8_fewestTo_124 : decode cX8_fewestTo 124 = .ok (.goto (-95), 3) := by decide +kernel
theorem dX8_fewestTo_127 : decode cX8_fewestTo 127 = .ok (.iload_n 1, 1) := by decide +kernel
theorem dX8_fewestTo_128 : decode cX8_fewestTo 128 = .ok (.invokestatic 39, 3) := by decide +kernel
theorem dX8_fewestTo_131 : decode cX8_fewestTo 131 = .ok (.ifCond .eq 24, 3) := by decide +kernel
theorem dX8_fewestTo_134 : decode cX8_fewestTo 134 = .ok (.aload_n 0, 1) := by decide +kernel
theorem dX8_fewestTo_135 : decode cX8_fewestTo 135 = .ok (.getfield 17, 3) := by decide +kernel
theorem dX8_fewestTo_138 : decode cX8_fewestTo 138 = .ok (.iconst 2, 1) := by decide +kernel
theorem dX8_fewestTo_139 : decode cX8_fewestTo 139 = .ok (.iload_n 1, 1) := by decide +kernel
theorem dX8_fewestTo_140 : decode cX8_fewestTo 140 = .ok (.imul, 1) := by decide +kernel
theorem dX8_fewestTo_141 : decode cX8_fewestTo 141 = .ok (.iload_n 2, 1) := by decide +kernel
theorem dX8_fewestTo_142 : decode cX8_fewestTo 142 = .ok (.ifCond .ne 7, 3) := by decide +kernel
theorem dX8_fewestTo_145 : decode cX8_fewestTo 145 = .ok (.iconst 0, 1) := by decide +kernel
theorem dX8_fewestTo_146 : decode cX8_fewestTo 146 = .ok (.goto 4, 3) := by decide +kernel
theorem dX8_fewestTo_149 : decode cX8_fewestTo 149 = .ok (.iconst 1, 1) := by decide +kernel
theorem dX8_fewestTo_150 : decode cX8_fewestTo 150 = .ok (.iadd, 1) := by decide +kernel
theorem dX8_fewestTo_151 : decode cX8_fewestTo 151 = .ok (.iaload, 1) := by decide +kernel
theorem dX8_fewestTo_152 : decode cX8_fewestTo 152 = .ok (.goto 5, 3) := by decide +kernel
theorem dX8_fewestTo_155 : decode cX8_fewestTo 155 = .ok (.bipush (-2), 2) := by decide +kernel
theorem dX8_fewestTo_157 : decode cX8_fewestTo 157 = .ok (.ireturn, 1) := by decide +kernel
theorem dX8_reach_0 : decode cX8_reach 0 = .ok (.iconst 2, 1) := by decide +kernel
theorem dX8_reach_1 : decode cX8_reach 1 = .ok (.iload_n 1, 1) := by decide +kernel
theorem dX8_reach_2 : decode cX8_reach 2 = .ok (.imul, 1) := by decide +kernel
theorem dX8_reach_3 : decode cX8_reach 3 = .ok (.iload_n 2, 1) := by decide +kernel
theorem dX8_reach_4 : decode cX8_reach 4 = .ok (.iadd, 1) := by decide +kernel
theorem dX8_reach_5 : decode cX8_reach 5 = .ok (.istore 4, 2) := by decide +kernel
theorem dX8_reach_7 : decode cX8_reach 7 = .ok (.aload_n 0, 1) := by decide +kernel
theorem dX8_reach_8 : decode cX8_reach 8 = .ok (.getfield 11, 3) := by decide +kernel
theorem dX8_reach_11 : decode cX8_reach 11 = .ok (.iload_n 1, 1) := by decide +kernel
theorem dX8_reach_12 : decode cX8_reach 12 = .ok (.iaload, 1) := by decide +kernel
theorem dX8_reach_13 : decode cX8_reach 13 = .ok (.ifCond .eq 53, 3) := by decide +kernel
theorem dX8_reach_16 : decode cX8_reach 16 = .ok (.aload_n 0, 1) := by decide +kernel
theorem dX8_reach_17 : decode cX8_reach 17 = .ok (.getfield 17, 3) := by decide +kernel
theorem dX8_reach_20 : decode cX8_reach 20 = .ok (.iload 4, 2) := by decide +kernel
theorem dX8_reach_22 : decode cX8_reach 22 = .ok (.iaload, 1) := by decide +kernel
theorem dX8_reach_23 : decode cX8_reach 23 = .ok (.bipush (-2), 2) := by decide +kernel
theorem dX8_reach_25 : decode cX8_reach 25 = .ok (.if_icmp .ne 41, 3) := by decide +kernel
theorem dX8_reach_28 : decode cX8_reach 28 = .ok (.aload_n 0, 1) := by decide +kernel
theorem dX8_reach_29 : decode cX8_reach 29 = .ok (.getfield 23, 3) := by decide +kernel
theorem dX8_reach_32 : decode cX8_reach 32 = .ok (.bipush 80, 2) := by decide +kernel
theorem dX8_reach_34 : decode cX8_reach 34 = .ok (.if_icmp .ge 32, 3) := by decide +kernel
theorem dX8_reach_37 : decode cX8_reach 37 = .ok (.aload_n 0, 1) := by decide +kernel
theorem dX8_reach_38 : decode cX8_reach 38 = .ok (.getfield 17, 3) := by decide +kernel
theorem dX8_reach_41 : decode cX8_reach 41 = .ok (.iload 4, 2) := by decide +kernel
theorem dX8_reach_43 : decode cX8_reach 43 = .ok (.iload_n 3, 1) := by decide +kernel
theorem dX8_reach_44 : decode cX8_reach 44 = .ok (.iastore, 1) := by decide +kernel
theorem dX8_reach_45 : decode cX8_reach 45 = .ok (.aload_n 0, 1) := by decide +kernel
theorem dX8_reach_46 : decode cX8_reach 46 = .ok (.getfield 20, 3) := by decide +kernel
theorem dX8_reach_49 : decode cX8_reach 49 = .ok (.aload_n 0, 1) := by decide +kernel
theorem dX8_reach_50 : decode cX8_reach 50 = .ok (.getfield 23, 3) := by decide +kernel
theorem dX8_reach_53 : decode cX8_reach 53 = .ok (.iload 4, 2) := by decide +kernel
theorem dX8_reach_55 : decode cX8_reach 55 = .ok (.iastore, 1) := by decide +kernel
theorem dX8_reach_56 : decode cX8_reach 56 = .ok (.aload_n 0, 1) := by decide +kernel
theorem dX8_reach_57 : decode cX8_reach 57 = .ok (.dup, 1) := by decide +kernel
theorem dX8_reach_58 : decode cX8_reach 58 = .ok (.getfield 23, 3) := by decide +kernel
theorem dX8_reach_61 : decode cX8_reach 61 = .ok (.iconst 1, 1) := by decide +kernel
theorem dX8_reach_62 : decode cX8_reach 62 = .ok (.iadd, 1) := by decide +kernel
theorem dX8_reach_63 : decode cX8_reach 63 = .ok (.putfield 23, 3) := by decide +kernel
theorem dX8_reach_66 : decode cX8_reach 66 = .ok (.return_, 1) := by decide +kernel
theorem dX9_commonDivisor_0 : decode cX9_commonDivisor 0 = .ok (.lload_n 0, 1) := by decide +kernel
theorem dX9_commonDivisor_1 : decode cX9_commonDivisor 1 = .ok (.invokestatic 7, 3) := by decide +kernel
theorem dX9_commonDivisor_4 : decode cX9_commonDivisor 4 = .ok (.lstore 4, 2) := by decide +kernel
theorem dX9_commonDivisor_6 : decode cX9_commonDivisor 6 = .ok (.lload_n 2, 1) := by decide +kernel
theorem dX9_commonDivisor_7 : decode cX9_commonDivisor 7 = .ok (.invokestatic 7, 3) := by decide +kernel
theorem dX9_commonDivisor_10 : decode cX9_commonDivisor 10 = .ok (.lstore 6, 2) := by decide +kernel
theorem dX9_commonDivisor_12 : decode cX9_commonDivisor 12 = .ok (.iconst 0, 1) := by decide +kernel
theorem dX9_commonDivisor_13 : decode cX9_commonDivisor 13 = .ok (.istore 8, 2) := by decide +kernel
theorem dX9_commonDivisor_15 : decode cX9_commonDivisor 15 = .ok (.iload 8, 2) := by decide +kernel
theorem dX9_commonDivisor_17 : decode cX9_commonDivisor 17 = .ok (.bipush 100, 2) := by decide +kernel
theorem dX9_commonDivisor_19 : decode cX9_commonDivisor 19 = .ok (.if_icmp .ge 31, 3) := by decide +kernel
theorem dX9_commonDivisor_22 : decode cX9_commonDivisor 22 = .ok (.lload 6, 2) := by decide +kernel
theorem dX9_commonDivisor_24 : decode cX9_commonDivisor 24 = .ok (.lconst 0, 1) := by decide +kernel
theorem dX9_commonDivisor_25 : decode cX9_commonDivisor 25 = .ok (.lcmp, 1) := by decide +kernel
theorem dX9_commonDivisor_26 : decode cX9_commonDivisor 26 = .ok (.ifCond .eq 24, 3) := by decide +kernel
theorem dX9_commonDivisor_29 : decode cX9_commonDivisor 29 = .ok (.lload 4, 2) := by decide +kernel
theorem dX9_commonDivisor_31 : decode cX9_commonDivisor 31 = .ok (.lload 6, 2) := by decide +kernel
theorem dX9_commonDivisor_33 : decode cX9_commonDivisor 33 = .ok (.lrem, 1) := by decide +kernel
theorem dX9_commonDivisor_34 : decode cX9_commonDivisor 34 = .ok (.lstore 9, 2) := by decide +kernel
theorem dX9_commonDivisor_36 : decode cX9_commonDivisor 36 = .ok (.lload 6, 2) := by decide +kernel
theorem dX9_commonDivisor_38 : decode cX9_commonDivisor 38 = .ok (.lstore 4, 2) := by decide +kernel
theorem dX9_commonDivisor_40 : decode cX9_commonDivisor 40 = .ok (.lload 9, 2) := by decide +kernel
theorem dX9_commonDivisor_42 : decode cX9_commonDivisor 42 = .ok (.lstore 6, 2) := by decide +kernel
theorem dX9_commonDivisor_44 : decode cX9_commonDivisor 44 = .ok (.iinc 8 1, 3) := by decide +kernel
theorem dX9_commonDivisor_47 : decode cX9_commonDivisor 47 = .ok (.goto (-32), 3) := by decide +kernel
theorem dX9_commonDivisor_50 : decode cX9_commonDivisor 50 = .ok (.lload 4, 2) := by decide +kernel
theorem dX9_commonDivisor_52 : decode cX9_commonDivisor 52 = .ok (.lreturn, 1) := by decide +kernel
theorem dX9_reduced_0 : decode cX9_reduced 0 = .ok (.lload_n 0, 1) := by decide +kernel
theorem dX9_reduced_1 : decode cX9_reduced 1 = .ok (.lload_n 2, 1) := by decide +kernel
theorem dX9_reduced_2 : decode cX9_reduced 2 = .ok (.invokestatic 13, 3) := by decide +kernel
theorem dX9_reduced_5 : decode cX9_reduced 5 = .ok (.lstore 5, 2) := by decide +kernel
theorem dX9_reduced_7 : decode cX9_reduced 7 = .ok (.lload 5, 2) := by decide +kernel
theorem dX9_reduced_9 : decode cX9_reduced 9 = .ok (.lconst 0, 1) := by decide +kernel
theorem dX9_reduced_10 : decode cX9_reduced 10 = .ok (.lcmp, 1) := by decide +kernel
theorem dX9_reduced_11 : decode cX9_reduced 11 = .ok (.ifCond .ne 5, 3) := by decide +kernel
theorem dX9_reduced_14 : decode cX9_reduced 14 = .ok (.lconst 0, 1) := by decide +kernel
theorem dX9_reduced_15 : decode cX9_reduced 15 = .ok (.lreturn, 1) := by decide +kernel
theorem dX9_reduced_16 : decode cX9_reduced 16 = .ok (.iload 4, 2) := by decide +kernel
theorem dX9_reduced_18 : decode cX9_reduced 18 = .ok (.ifCond .eq 7, 3) := by decide +kernel
theorem dX9_reduced_21 : decode cX9_reduced 21 = .ok (.lload_n 2, 1) := by decide +kernel
theorem dX9_reduced_22 : decode cX9_reduced 22 = .ok (.goto 4, 3) := by decide +kernel
theorem dX9_reduced_25 : decode cX9_reduced 25 = .ok (.lload_n 0, 1) := by decide +kernel
theorem dX9_reduced_26 : decode cX9_reduced 26 = .ok (.lload 5, 2) := by decide +kernel
theorem dX9_reduced_28 : decode cX9_reduced 28 = .ok (.ldiv, 1) := by decide +kernel
theorem dX9_reduced_29 : decode cX9_reduced 29 = .ok (.lstore 7, 2) := by decide +kernel
theorem dX9_reduced_31 : decode cX9_reduced 31 = .ok (.lload_n 2, 1) := by decide +kernel
theorem dX9_reduced_32 : decode cX9_reduced 32 = .ok (.lconst 0, 1) := by decide +kernel
theorem dX9_reduced_33 : decode cX9_reduced 33 = .ok (.lcmp, 1) := by decide +kernel
theorem dX9_reduced_34 : decode cX9_reduced 34 = .ok (.ifCond .ge 9, 3) := by decide +kernel
theorem dX9_reduced_37 : decode cX9_reduced 37 = .ok (.lload 7, 2) := by decide +kernel
theorem dX9_reduced_39 : decode cX9_reduced 39 = .ok (.lneg, 1) := by decide +kernel
theorem dX9_reduced_40 : decode cX9_reduced 40 = .ok (.goto 5, 3) := by decide +kernel
theorem dX9_reduced_43 : decode cX9_reduced 43 = .ok (.lload 7, 2) := by decide +kernel
theorem dX9_reduced_45 : decode cX9_reduced 45 = .ok (.lreturn, 1) := by decide +kernel
theorem dX9_reducedOf_0 : decode cX9_reducedOf 0 = .ok (.lload_n 0, 1) := by decide +kernel
theorem dX9_reducedOf_1 : decode cX9_reducedOf 1 = .ok (.lload_n 2, 1) := by decide +kernel
theorem dX9_reducedOf_2 : decode cX9_reducedOf 2 = .ok (.invokestatic 13, 3) := by decide +kernel
theorem dX9_reducedOf_5 : decode cX9_reducedOf 5 = .ok (.lload 4, 2) := by decide +kernel
theorem dX9_reducedOf_7 : decode cX9_reducedOf 7 = .ok (.invokestatic 13, 3) := by decide +kernel
theorem dX9_reducedOf_10 : decode cX9_reducedOf 10 = .ok (.lstore 7, 2) := by decide +kernel
theorem dX9_reducedOf_12 : decode cX9_reducedOf 12 = .ok (.lload 7, 2) := by decide +kernel
theorem dX9_reducedOf_14 : decode cX9_reducedOf 14 = .ok (.lconst 0, 1) := by decide +kernel
theorem dX9_reducedOf_15 : decode cX9_reducedOf 15 = .ok (.lcmp, 1) := by decide +kernel
theorem dX9_reducedOf_16 : decode cX9_reducedOf 16 = .ok (.ifCond .ne 5, 3) := by decide +kernel
theorem dX9_reducedOf_19 : decode cX9_reducedOf 19 = .ok (.lconst 0, 1) := by decide +kernel
theorem dX9_reducedOf_20 : decode cX9_reducedOf 20 = .ok (.lreturn, 1) := by decide +kernel
theorem dX9_reducedOf_21 : decode cX9_reducedOf 21 = .ok (.iload 6, 2) := by decide +kernel
theorem dX9_reducedOf_23 : decode cX9_reducedOf 23 = .ok (.iconst 2, 1) := by decide +kernel
theorem dX9_reducedOf_24 : decode cX9_reducedOf 24 = .ok (.if_icmp .ne 9, 3) := by decide +kernel
theorem dX9_reducedOf_27 : decode cX9_reducedOf 27 = .ok (.lload 4, 2) := by decide +kernel
theorem dX9_reducedOf_29 : decode cX9_reducedOf 29 = .ok (.lload 7, 2) := by decide +kernel
theorem dX9_reducedOf_31 : decode cX9_reducedOf 31 = .ok (.ldiv, 1) := by decide +kernel
theorem dX9_reducedOf_32 : decode cX9_reducedOf 32 = .ok (.lreturn, 1) := by decide +kernel
theorem dX9_reducedOf_33 : decode cX9_reducedOf 33 = .ok (.iload 6, 2) := by decide +kernel
theorem dX9_reducedOf_35 : decode cX9_reducedOf 35 = .ok (.ifCond .ne 7, 3) := by decide +kernel
theorem dX9_reducedOf_38 : decode cX9_reducedOf 38 = .ok (.lload_n 0, 1) := by decide +kernel
theorem dX9_reducedOf_39 : decode cX9_reducedOf 39 = .ok (.goto 4, 3) := by decide +kernel
theorem dX9_reducedOf_42 : decode cX9_reducedOf 42 = .ok (.lload_n 2, 1) := by decide +kernel
theorem dX9_reducedOf_43 : decode cX9_reducedOf 43 = .ok (.lload 7, 2) := by decide +kernel
theorem dX9_reducedOf_45 : decode cX9_reducedOf 45 = .ok (.ldiv, 1) := by decide +kernel
theorem dX9_reducedOf_46 : decode cX9_reducedOf 46 = .ok (.lreturn, 1) := by decide +kernel
theorem dX9_rootOf_0 : decode cX9_rootOf 0 = .ok (.lload_n 0, 1) := by decide +kernel
theorem dX9_rootOf_1 : decode cX9_rootOf 1 = .ok (.lconst 0, 1) := by decide +kernel
theorem dX9_rootOf_2 : decode cX9_rootOf 2 = .ok (.lcmp, 1) := by decide +kernel
theorem dX9_rootOf_3 : decode cX9_rootOf 3 = .ok (.ifCond .gt 5, 3) := by decide +kernel
theorem dX9_rootOf_6 : decode cX9_rootOf 6 = .ok (.lconst 0, 1) := by decide +kernel
theorem dX9_rootOf_7 : decode cX9_rootOf 7 = .ok (.lreturn, 1) := by decide +kernel
theorem dX9_rootOf_8 : decode cX9_rootOf 8 = .ok (.lconst 1, 1) := by decide +kernel
theorem dX9_rootOf_9 : decode cX9_rootOf 9 = .ok (.bipush 65, 2) := by decide +kernel
theorem dX9_rootOf_11 : decode cX9_rootOf 11 = .ok (.lload_n 0, 1) := by decide +kernel
theorem dX9_rootOf_12 : decode cX9_rootOf 12 = .ok (.invokestatic 19, 3) := by decide +kernel
theorem dX9_rootOf_15 : decode cX9_rootOf 15 = .ok (.isub, 1) := by decide +kernel
theorem dX9_rootOf_16 : decode cX9_rootOf 16 = .ok (.iconst 2, 1) := by decide +kernel
theorem dX9_rootOf_17 : decode cX9_rootOf 17 = .ok (.idiv, 1) := by decide +kernel
theorem dX9_rootOf_18 : decode cX9_rootOf 18 = .ok (.lshl, 1) := by decide +kernel
theorem dX9_rootOf_19 : decode cX9_rootOf 19 = .ok (.lstore_n 2, 1) := by decide +kernel
theorem dX9_rootOf_20 : decode cX9_rootOf 20 = .ok (.iconst 0, 1) := by decide +kernel
theorem dX9_rootOf_21 : decode cX9_rootOf 21 = .ok (.istore 4, 2) := by decide +kernel
theorem dX9_rootOf_23 : decode cX9_rootOf 23 = .ok (.iload 4, 2) := by decide +kernel
theorem dX9_rootOf_25 : decode cX9_rootOf 25 = .ok (.bipush 64, 2) := by decide +kernel
theorem dX9_rootOf_27 : decode cX9_rootOf 27 = .ok (.if_icmp .ge 38, 3) := by decide +kernel
theorem dX9_rootOf_30 : decode cX9_rootOf 30 = .ok (.lload_n 2, 1) := by decide +kernel
theorem dX9_rootOf_31 : decode cX9_rootOf 31 = .ok (.lconst 0, 1) := by decide +kernel
theorem dX9_rootOf_32 : decode cX9_rootOf 32 = .ok (.lcmp, 1) := by decide +kernel
theorem dX9_rootOf_33 : decode cX9_rootOf 33 = .ok (.ifCond .le 32, 3) := by decide +kernel
theorem dX9_rootOf_36 : decode cX9_rootOf 36 = .ok (.lload_n 2, 1) := by decide +kernel
theorem dX9_rootOf_37 : decode cX9_rootOf 37 = .ok (.lload_n 0, 1) := by decide +kernel
theorem dX9_rootOf_38 : decode cX9_rootOf 38 = .ok (.lload_n 2, 1) := by decide +kernel
theorem dX9_rootOf_39 : decode cX9_rootOf 39 = .ok (.ldiv, 1) := by decide +kernel
theorem dX9_rootOf_40 : decode cX9_rootOf 40 = .ok (.ladd, 1) := by decide +kernel
theorem dX9_rootOf_41 : decode cX9_rootOf 41 = .ok (.ldc2_w 25, 3) := by decide +kernel
theorem dX9_rootOf_44 : decode cX9_rootOf 44 = .ok (.ldiv, 1) := by decide +kernel
theorem dX9_rootOf_45 : decode cX9_rootOf 45 = .ok (.lstore 5, 2) := by decide +kernel
theorem dX9_rootOf_47 : decode cX9_rootOf 47 = .ok (.lload 5, 2) := by decide +kernel
theorem dX9_rootOf_49 : decode cX9_rootOf 49 = .ok (.lload_n 2, 1) := by decide +kernel
theorem dX9_rootOf_50 : decode cX9_rootOf 50 = .ok (.lcmp, 1) := by decide +kernel
theorem dX9_rootOf_51 : decode cX9_rootOf 51 = .ok (.ifCond .lt 5, 3) := by decide +kernel
theorem dX9_rootOf_54 : decode cX9_rootOf 54 = .ok (.lload_n 2, 1) := by decide +kernel
theorem dX9_rootOf_55 : decode cX9_rootOf 55 = .ok (.lreturn, 1) := by decide +kernel
theorem dX9_rootOf_56 : decode cX9_rootOf 56 = .ok (.lload 5, 2) := by decide +kernel
theorem dX9_rootOf_58 : decode cX9_rootOf 58 = .ok (.lstore_n 2, 1) := by decide +kernel
theorem dX9_rootOf_59 : decode cX9_rootOf 59 = .ok (.iinc 4 1, 3) := by decide +kernel
theorem dX9_rootOf_62 : decode cX9_rootOf 62 = .ok (.goto (-39), 3) := by decide +kernel
theorem dX9_rootOf_65 : decode cX9_rootOf 65 = .ok (.lload_n 2, 1) := by decide +kernel
theorem dX9_rootOf_66 : decode cX9_rootOf 66 = .ok (.lreturn, 1) := by decide +kernel
theorem dX9_floorOf_0 : decode cX9_floorOf 0 = .ok (.lload 6, 2) := by decide +kernel
theorem dX9_floorOf_2 : decode cX9_floorOf 2 = .ok (.lconst 0, 1) := by decide +kernel
theorem dX9_floorOf_3 : decode cX9_floorOf 3 = .ok (.lcmp, 1) := by decide +kernel
theorem dX9_floorOf_4 : decode cX9_floorOf 4 = .ok (.ifCond .gt 5, 3) := by decide +kernel
theorem dX9_floorOf_7 : decode cX9_floorOf 7 = .ok (.lconst 0, 1) := by decide +kernel
theorem dX9_floorOf_8 : decode cX9_floorOf 8 = .ok (.lreturn, 1) := by decide +kernel
theorem dX9_floorOf_9 : decode cX9_floorOf 9 = .ok (.lload_n 2, 1) := by decide +kernel
theorem dX9_floorOf_10 : decode cX9_floorOf 10 = .ok (.lload_n 2, 1) := by decide +kernel
theorem dX9_floorOf_11 : decode cX9_floorOf 11 = .ok (.lmul, 1) := by decide +kernel
theorem dX9_floorOf_12 : decode cX9_floorOf 12 = .ok (.lload 4, 2) := by decide +kernel
theorem dX9_floorOf_14 : decode cX9_floorOf 14 = .ok (.lmul, 1) := by decide +kernel
theorem dX9_floorOf_15 : decode cX9_floorOf 15 = .ok (.lstore 8, 2) := by decide +kernel
theorem dX9_floorOf_17 : decode cX9_floorOf 17 = .ok (.lload 8, 2) := by decide +kernel
theorem dX9_floorOf_19 : decode cX9_floorOf 19 = .ok (.invokestatic 27, 3) := by decide +kernel
theorem dX9_floorOf_22 : decode cX9_floorOf 22 = .ok (.lstore 10, 2) := by decide +kernel
theorem dX9_floorOf_24 : decode cX9_floorOf 24 = .ok (.lload_n 0, 1) := by decide +kernel
theorem dX9_floorOf_25 : decode cX9_floorOf 25 = .ok (.lload 10, 2) := by decide +kernel
theorem dX9_floorOf_27 : decode cX9_floorOf 27 = .ok (.ladd, 1) := by decide +kernel
theorem dX9_floorOf_28 : decode cX9_floorOf 28 = .ok (.lstore 12, 2) := by decide +kernel
theorem dX9_floorOf_30 : decode cX9_floorOf 30 = .ok (.lload_n 2, 1) := by decide +kernel
theorem dX9_floorOf_31 : decode cX9_floorOf 31 = .ok (.lconst 0, 1) := by decide +kernel
theorem dX9_floorOf_32 : decode cX9_floorOf 32 = .ok (.lcmp, 1) := by decide +kernel
theorem dX9_floorOf_33 : decode cX9_floorOf 33 = .ok (.ifCond .ge 29, 3) := by decide +kernel
theorem dX9_floorOf_36 : decode cX9_floorOf 36 = .ok (.lload 10, 2) := by decide +kernel
theorem dX9_floorOf_38 : decode cX9_floorOf 38 = .ok (.lload 10, 2) := by decide +kernel
theorem dX9_floorOf_40 : decode cX9_floorOf 40 = .ok (.lmul, 1) := by decide +kernel
theorem dX9_floorOf_41 : decode cX9_floorOf 41 = .ok (.lload 8, 2) := by decide +kernel
theorem dX9_floorOf_43 : decode cX9_floorOf 43 = .ok (.lcmp, 1) := by decide +kernel
theorem dX9_floorOf_44 : decode cX9_floorOf 44 = .ok (.ifCond .ne 10, 3) := by decide +kernel
theorem dX9_floorOf_47 : decode cX9_floorOf 47 = .ok (.lload_n 0, 1) := by decide +kernel
theorem dX9_floorOf_48 : decode cX9_floorOf 48 = .ok (.lload 10, 2) := by decide +kernel
theorem dX9_floorOf_50 : decode cX9_floorOf 50 = .ok (.lsub, 1) := by decide +kernel
theorem dX9_floorOf_51 : decode cX9_floorOf 51 = .ok (.goto 9, 3) := by decide +kernel
theorem dX9_floorOf_54 : decode cX9_floorOf 54 = .ok (.lload_n 0, 1) := by decide +kernel
theorem dX9_floorOf_55 : decode cX9_floorOf 55 = .ok (.lload 10, 2) := by decide +kernel
theorem dX9_floorOf_57 : decode cX9_floorOf 57 = .ok (.lsub, 1) := by decide +kernel
theorem dX9_floorOf_58 : decode cX9_floorOf 58 = .ok (.lconst 1, 1) := by decide +kernel
theorem dX9_floorOf_59 : decode cX9_floorOf 59 = .ok (.lsub, 1) := by decide +kernel
theorem dX9_floorOf_60 : decode cX9_floorOf 60 = .ok (.lstore 12, 2) := by decide +kernel
theorem dX9_floorOf_62 : decode cX9_floorOf 62 = .ok (.lload 12, 2) := by decide +kernel
theorem dX9_floorOf_64 : decode cX9_floorOf 64 = .ok (.lload 6, 2) := by decide +kernel
theorem dX9_floorOf_66 : decode cX9_floorOf 66 = .ok (.invokestatic 30, 3) := by decide +kernel
theorem dX9_floorOf_69 : decode cX9_floorOf 69 = .ok (.lreturn, 1) := by decide +kernel
theorem dX9_isWhole_0 : decode cX9_isWhole 0 = .ok (.lload_n 2, 1) := by decide +kernel
theorem dX9_isWhole_1 : decode cX9_isWhole 1 = .ok (.lload_n 2, 1) := by decide +kernel
theorem dX9_isWhole_2 : decode cX9_isWhole 2 = .ok (.lmul, 1) := by decide +kernel
theorem dX9_isWhole_3 : decode cX9_isWhole 3 = .ok (.lload 4, 2) := by decide +kernel
theorem dX9_isWhole_5 : decode cX9_isWhole 5 = .ok (.lmul, 1) := by decide +kernel
theorem dX9_isWhole_6 : decode cX9_isWhole 6 = .ok (.lstore 8, 2) := by decide +kernel
theorem dX9_isWhole_8 : decode cX9_isWhole 8 = .ok (.lload 8, 2) := by decide +kernel
theorem dX9_isWhole_10 : decode cX9_isWhole 10 = .ok (.invokestatic 27, 3) := by decide +kernel
theorem dX9_isWhole_13 : decode cX9_isWhole 13 = .ok (.lstore 10, 2) := by decide +kernel
theorem dX9_isWhole_15 : decode cX9_isWhole 15 = .ok (.lload 10, 2) := by decide +kernel
theorem dX9_isWhole_17 : decode cX9_isWhole 17 = .ok (.lload 10, 2) := by decide +kernel
theorem dX9_isWhole_19 : decode cX9_isWhole 19 = .ok (.lmul, 1) := by decide +kernel
theorem dX9_isWhole_20 : decode cX9_isWhole 20 = .ok (.lload 8, 2) := by decide +kernel
theorem dX9_isWhole_22 : decode cX9_isWhole 22 = .ok (.lcmp, 1) := by decide +kernel
theorem dX9_isWhole_23 : decode cX9_isWhole 23 = .ok (.ifCond .ne 30, 3) := by decide +kernel
theorem dX9_isWhole_26 : decode cX9_isWhole 26 = .ok (.lload_n 2, 1) := by decide +kernel
theorem dX9_isWhole_27 : decode cX9_isWhole 27 = .ok (.lconst 0, 1) := by decide +kernel
theorem dX9_isWhole_28 : decode cX9_isWhole 28 = .ok (.lcmp, 1) := by decide +kernel
theorem dX9_isWhole_29 : decode cX9_isWhole 29 = .ok (.ifCond .ge 10, 3) := by decide +kernel
theorem dX9_isWhole_32 : decode cX9_isWhole 32 = .ok (.lload_n 0, 1) := by decide +kernel
theorem dX9_isWhole_33 : decode cX9_isWhole 33 = .ok (.lload 10, 2) := by decide +kernel
theorem dX9_isWhole_35 : decode cX9_isWhole 35 = .ok (.lsub, 1) := by decide +kernel
theorem dX9_isWhole_36 : decode cX9_isWhole 36 = .ok (.goto 7, 3) := by decide +kernel
theorem dX9_isWhole_39 : decode cX9_isWhole 39 = .ok (.lload_n 0, 1) := by decide +kernel
theorem dX9_isWhole_40 : decode cX9_isWhole 40 = .ok (.lload 10, 2) := by decide +kernel
theorem dX9_isWhole_42 : decode cX9_isWhole 42 = .ok (.ladd, 1) := by decide +kernel
theorem dX9_isWhole_43 : decode cX9_isWhole 43 = .ok (.lload 6, 2) := by decide +kernel
theorem dX9_isWhole_45 : decode cX9_isWhole 45 = .ok (.lcmp, 1) := by decide +kernel
theorem dX9_isWhole_46 : decode cX9_isWhole 46 = .ok (.ifCond .ne 7, 3) := by decide +kernel
theorem dX9_isWhole_49 : decode cX9_isWhole 49 = .ok (.iconst 1, 1) := by decide +kernel
theorem dX9_isWhole_50 : decode cX9_isWhole 50 = .ok (.goto 4, 3) := by decide +kernel
theorem dX9_isWhole_53 : decode cX9_isWhole 53 = .ok (.iconst 0, 1) := by decide +kernel
theorem dX9_isWhole_54 : decode cX9_isWhole 54 = .ok (.ireturn, 1) := by decide +kernel
theorem dJ6_compare_7cf53_0 : decode cJ6_compare_7cf53 0 = .ok (.iload_n 0, 1) := by decide +kernel
theorem dJ6_compare_7cf53_1 : decode cJ6_compare_7cf53 1 = .ok (.iload_n 1, 1) := by decide +kernel
theorem dJ6_compare_7cf53_2 : decode cJ6_compare_7cf53 2 = .ok (.if_icmp .ge 7, 3) := by decide +kernel
theorem dJ6_compare_7cf53_5 : decode cJ6_compare_7cf53 5 = .ok (.iconst (-1), 1) := by decide +kernel
theorem dJ6_compare_7cf53_6 : decode cJ6_compare_7cf53 6 = .ok (.goto 13, 3) := by decide +kernel
theorem dJ6_compare_7cf53_9 : decode cJ6_compare_7cf53 9 = .ok (.iload_n 0, 1) := by decide +kernel
theorem dJ6_compare_7cf53_10 : decode cJ6_compare_7cf53 10 = .ok (.iload_n 1, 1) := by decide +kernel
theorem dJ6_compare_7cf53_11 : decode cJ6_compare_7cf53 11 = .ok (.if_icmp .ne 7, 3) := by decide +kernel
theorem dJ6_compare_7cf53_14 : decode cJ6_compare_7cf53 14 = .ok (.iconst 0, 1) := by decide +kernel
theorem dJ6_compare_7cf53_15 : decode cJ6_compare_7cf53 15 = .ok (.goto 4, 3) := by decide +kernel
theorem dJ6_compare_7cf53_18 : decode cJ6_compare_7cf53 18 = .ok (.iconst 1, 1) := by decide +kernel
theorem dJ6_compare_7cf53_19 : decode cJ6_compare_7cf53 19 = .ok (.ireturn, 1) := by decide +kernel
theorem dJ6_numberOfLeadingZeros_0f7a4_0 : decode cJ6_numberOfLeadingZeros_0f7a4 0 = .ok (.iload_n 0, 1) := by decide +kernel
theorem dJ6_numberOfLeadingZeros_0f7a4_1 : decode cJ6_numberOfLeadingZeros_0f7a4 1 = .ok (.ifCond .gt 14, 3) := by decide +kernel
theorem dJ6_numberOfLeadingZeros_0f7a4_4 : decode cJ6_numberOfLeadingZeros_0f7a4 4 = .ok (.iload_n 0, 1) := by decide +kernel
theorem dJ6_numberOfLeadingZeros_0f7a4_5 : decode cJ6_numberOfLeadingZeros_0f7a4 5 = .ok (.ifCond .ne 8, 3) := by decide +kernel
theorem dJ6_numberOfLeadingZeros_0f7a4_8 : decode cJ6_numberOfLeadingZeros_0f7a4 8 = .ok (.bipush 32, 2) := by decide +kernel
theorem dJ6_numberOfLeadingZeros_0f7a4_10 : decode cJ6_numberOfLeadingZeros_0f7a4 10 = .ok (.goto 4, 3) := by decide +kernel
theorem dJ6_numberOfLeadingZeros_0f7a4_13 : decode cJ6_numberOfLeadingZeros_0f7a4 13 = .ok (.iconst 0, 1) := by decide +kernel
theorem dJ6_numberOfLeadingZeros_0f7a4_14 : decode cJ6_numberOfLeadingZeros_0f7a4 14 = .ok (.ireturn, 1) := by decide +kernel
theorem dJ6_numberOfLeadingZeros_0f7a4_15 : decode cJ6_numberOfLeadingZeros_0f7a4 15 = .ok (.bipush 31, 2) := by decide +kernel
theorem dJ6_numberOfLeadingZeros_0f7a4_17 : decode cJ6_numberOfLeadingZeros_0f7a4 17 = .ok (.istore_n 1, 1) := by decide +kernel
theorem dJ6_numberOfLeadingZeros_0f7a4_18 : decode cJ6_numberOfLeadingZeros_0f7a4 18 = .ok (.iload_n 0, 1) := by decide +kernel
theorem dJ6_numberOfLeadingZeros_0f7a4_19 : decode cJ6_numberOfLeadingZeros_0f7a4 19 = .ok (.ldc_w 264, 3) := by decide +kernel
theorem dJ6_numberOfLeadingZeros_0f7a4_22 : decode cJ6_numberOfLeadingZeros_0f7a4 22 = .ok (.if_icmp .lt 11, 3) := by decide +kernel
theorem dJ6_numberOfLeadingZeros_0f7a4_25 : decode cJ6_numberOfLeadingZeros_0f7a4 25 = .ok (.iinc 1 (-16), 3) := by decide +kernel
theorem dJ6_numberOfLeadingZeros_0f7a4_28 : decode cJ6_numberOfLeadingZeros_0f7a4 28 = .ok (.iload_n 0, 1) := by decide +kernel
theorem dJ6_numberOfLeadingZeros_0f7a4_29 : decode cJ6_numberOfLeadingZeros_0f7a4 29 = .ok (.bipush 16, 2) := by decide +kernel
theorem dJ6_numberOfLeadingZeros_0f7a4_31 : decode cJ6_numberOfLeadingZeros_0f7a4 31 = .ok (.iushr, 1) := by decide +kernel
theorem dJ6_numberOfLeadingZeros_0f7a4_32 : decode cJ6_numberOfLeadingZeros_0f7a4 32 = .ok (.istore_n 0, 1) := by decide +kernel
theorem dJ6_numberOfLeadingZeros_0f7a4_33 : decode cJ6_numberOfLeadingZeros_0f7a4 33 = .ok (.iload_n 0, 1) := by decide +kernel
theorem dJ6_numberOfLeadingZeros_0f7a4_34 : decode cJ6_numberOfLeadingZeros_0f7a4 34 = .ok (.sipush 256, 3) := by decide +kernel
theorem dJ6_numberOfLeadingZeros_0f7a4_37 : decode cJ6_numberOfLeadingZeros_0f7a4 37 = .ok (.if_icmp .lt 11, 3) := by decide +kernel
theorem dJ6_numberOfLeadingZeros_0f7a4_40 : decode cJ6_numberOfLeadingZeros_0f7a4 40 = .ok (.iinc 1 (-8), 3) := by decide +kernel
theorem dJ6_numberOfLeadingZeros_0f7a4_43 : decode cJ6_numberOfLeadingZeros_0f7a4 43 = .ok (.iload_n 0, 1) := by decide +kernel
theorem dJ6_numberOfLeadingZeros_0f7a4_44 : decode cJ6_numberOfLeadingZeros_0f7a4 44 = .ok (.bipush 8, 2) := by decide +kernel
theorem dJ6_numberOfLeadingZeros_0f7a4_46 : decode cJ6_numberOfLeadingZeros_0f7a4 46 = .ok (.iushr, 1) := by decide +kernel
theorem dJ6_numberOfLeadingZeros_0f7a4_47 : decode cJ6_numberOfLeadingZeros_0f7a4 47 = .ok (.istore_n 0, 1) := by decide +kernel
theorem dJ6_numberOfLeadingZeros_0f7a4_48 : decode cJ6_numberOfLeadingZeros_0f7a4 48 = .ok (.iload_n 0, 1) := by decide +kernel
theorem dJ6_numberOfLeadingZeros_0f7a4_49 : decode cJ6_numberOfLeadingZeros_0f7a4 49 = .ok (.bipush 16, 2) := by decide +kernel
theorem dJ6_numberOfLeadingZeros_0f7a4_51 : decode cJ6_numberOfLeadingZeros_0f7a4 51 = .ok (.if_icmp .lt 10, 3) := by decide +kernel
theorem dJ6_numberOfLeadingZeros_0f7a4_54 : decode cJ6_numberOfLeadingZeros_0f7a4 54 = .ok (.iinc 1 (-4), 3) := by decide +kernel
theorem dJ6_numberOfLeadingZeros_0f7a4_57 : decode cJ6_numberOfLeadingZeros_0f7a4 57 = .ok (.iload_n 0, 1) := by decide +kernel
theorem dJ6_numberOfLeadingZeros_0f7a4_58 : decode cJ6_numberOfLeadingZeros_0f7a4 58 = .ok (.iconst 4, 1) := by decide +kernel
theorem dJ6_numberOfLeadingZeros_0f7a4_59 : decode cJ6_numberOfLeadingZeros_0f7a4 59 = .ok (.iushr, 1) := by decide +kernel
theorem dJ6_numberOfLeadingZeros_0f7a4_60 : decode cJ6_numberOfLeadingZeros_0f7a4 60 = .ok (.istore_n 0, 1) := by decide +kernel
theorem dJ6_numberOfLeadingZeros_0f7a4_61 : decode cJ6_numberOfLeadingZeros_0f7a4 61 = .ok (.iload_n 0, 1) := by decide +kernel
theorem dJ6_numberOfLeadingZeros_0f7a4_62 : decode cJ6_numberOfLeadingZeros_0f7a4 62 = .ok (.iconst 4, 1) := by decide +kernel
theorem dJ6_numberOfLeadingZeros_0f7a4_63 : decode cJ6_numberOfLeadingZeros_0f7a4 63 = .ok (.if_icmp .lt 10, 3) := by decide +kernel
theorem dJ6_numberOfLeadingZeros_0f7a4_66 : decode cJ6_numberOfLeadingZeros_0f7a4 66 = .ok (.iinc 1 (-2), 3) := by decide +kernel
theorem dJ6_numberOfLeadingZeros_0f7a4_69 : decode cJ6_numberOfLeadingZeros_0f7a4 69 = .ok (.iload_n 0, 1) := by decide +kernel
theorem dJ6_numberOfLeadingZeros_0f7a4_70 : decode cJ6_numberOfLeadingZeros_0f7a4 70 = .ok (.iconst 2, 1) := by decide +kernel
theorem dJ6_numberOfLeadingZeros_0f7a4_71 : decode cJ6_numberOfLeadingZeros_0f7a4 71 = .ok (.iushr, 1) := by decide +kernel
theorem dJ6_numberOfLeadingZeros_0f7a4_72 : decode cJ6_numberOfLeadingZeros_0f7a4 72 = .ok (.istore_n 0, 1) := by decide +kernel
theorem dJ6_numberOfLeadingZeros_0f7a4_73 : decode cJ6_numberOfLeadingZeros_0f7a4 73 = .ok (.iload_n 1, 1) := by decide +kernel
theorem dJ6_numberOfLeadingZeros_0f7a4_74 : decode cJ6_numberOfLeadingZeros_0f7a4 74 = .ok (.iload_n 0, 1) := by decide +kernel
theorem dJ6_numberOfLeadingZeros_0f7a4_75 : decode cJ6_numberOfLeadingZeros_0f7a4 75 = .ok (.iconst 1, 1) := by decide +kernel
theorem dJ6_numberOfLeadingZeros_0f7a4_76 : decode cJ6_numberOfLeadingZeros_0f7a4 76 = .ok (.iushr, 1) := by decide +kernel
theorem dJ6_numberOfLeadingZeros_0f7a4_77 : decode cJ6_numberOfLeadingZeros_0f7a4 77 = .ok (.isub, 1) := by decide +kernel
theorem dJ6_numberOfLeadingZeros_0f7a4_78 : decode cJ6_numberOfLeadingZeros_0f7a4 78 = .ok (.ireturn, 1) := by decide +kernel
theorem dJ13_numberOfLeadingZeros_95d88_0 : decode cJ13_numberOfLeadingZeros_95d88 0 = .ok (.lload_n 0, 1) := by decide +kernel
theorem dJ13_numberOfLeadingZeros_95d88_1 : decode cJ13_numberOfLeadingZeros_95d88 1 = .ok (.bipush 32, 2) := by decide +kernel
theorem dJ13_numberOfLeadingZeros_95d88_3 : decode cJ13_numberOfLeadingZeros_95d88 3 = .ok (.lushr, 1) := by decide +kernel
theorem dJ13_numberOfLeadingZeros_95d88_4 : decode cJ13_numberOfLeadingZeros_95d88 4 = .ok (.l2i, 1) := by decide +kernel
theorem dJ13_numberOfLeadingZeros_95d88_5 : decode cJ13_numberOfLeadingZeros_95d88 5 = .ok (.istore_n 2, 1) := by decide +kernel
theorem dJ13_numberOfLeadingZeros_95d88_6 : decode cJ13_numberOfLeadingZeros_95d88 6 = .ok (.iload_n 2, 1) := by decide +kernel
theorem dJ13_numberOfLeadingZeros_95d88_7 : decode cJ13_numberOfLeadingZeros_95d88 7 = .ok (.ifCond .ne 14, 3) := by decide +kernel
theorem dJ13_numberOfLeadingZeros_95d88_10 : decode cJ13_numberOfLeadingZeros_95d88 10 = .ok (.bipush 32, 2) := by decide +kernel
theorem dJ13_numberOfLeadingZeros_95d88_12 : decode cJ13_numberOfLeadingZeros_95d88 12 = .ok (.lload_n 0, 1) := by decide +kernel
theorem dJ13_numberOfLeadingZeros_95d88_13 : decode cJ13_numberOfLeadingZeros_95d88 13 = .ok (.l2i, 1) := by decide +kernel
theorem dJ13_numberOfLeadingZeros_95d88_14 : decode cJ13_numberOfLeadingZeros_95d88 14 = .ok (.invokestatic 308, 3) := by decide +kernel
theorem dJ13_numberOfLeadingZeros_95d88_17 : decode cJ13_numberOfLeadingZeros_95d88 17 = .ok (.iadd, 1) := by decide +kernel
theorem dJ13_numberOfLeadingZeros_95d88_18 : decode cJ13_numberOfLeadingZeros_95d88 18 = .ok (.goto 7, 3) := by decide +kernel
theorem dJ13_numberOfLeadingZeros_95d88_21 : decode cJ13_numberOfLeadingZeros_95d88 21 = .ok (.iload_n 2, 1) := by decide +kernel
theorem dJ13_numberOfLeadingZeros_95d88_22 : decode cJ13_numberOfLeadingZeros_95d88 22 = .ok (.invokestatic 308, 3) := by decide +kernel
theorem dJ13_numberOfLeadingZeros_95d88_25 : decode cJ13_numberOfLeadingZeros_95d88 25 = .ok (.ireturn, 1) := by decide +kernel
theorem dJ9_floorDiv_f86c9_0 : decode cJ9_floorDiv_f86c9 0 = .ok (.lload_n 0, 1) := by decide +kernel
theorem dJ9_floorDiv_f86c9_1 : decode cJ9_floorDiv_f86c9 1 = .ok (.lload_n 2, 1) := by decide +kernel
theorem dJ9_floorDiv_f86c9_2 : decode cJ9_floorDiv_f86c9 2 = .ok (.ldiv, 1) := by decide +kernel
theorem dJ9_floorDiv_f86c9_3 : decode cJ9_floorDiv_f86c9 3 = .ok (.lstore 4, 2) := by decide +kernel
theorem dJ9_floorDiv_f86c9_5 : decode cJ9_floorDiv_f86c9 5 = .ok (.lload_n 0, 1) := by decide +kernel
theorem dJ9_floorDiv_f86c9_6 : decode cJ9_floorDiv_f86c9 6 = .ok (.lload_n 2, 1) := by decide +kernel
theorem dJ9_floorDiv_f86c9_7 : decode cJ9_floorDiv_f86c9 7 = .ok (.lxor, 1) := by decide +kernel
theorem dJ9_floorDiv_f86c9_8 : decode cJ9_floorDiv_f86c9 8 = .ok (.lconst 0, 1) := by decide +kernel
theorem dJ9_floorDiv_f86c9_9 : decode cJ9_floorDiv_f86c9 9 = .ok (.lcmp, 1) := by decide +kernel
theorem dJ9_floorDiv_f86c9_10 : decode cJ9_floorDiv_f86c9 10 = .ok (.ifCond .ge 17, 3) := by decide +kernel
theorem dJ9_floorDiv_f86c9_13 : decode cJ9_floorDiv_f86c9 13 = .ok (.lload 4, 2) := by decide +kernel
theorem dJ9_floorDiv_f86c9_15 : decode cJ9_floorDiv_f86c9 15 = .ok (.lload_n 2, 1) := by decide +kernel
theorem dJ9_floorDiv_f86c9_16 : decode cJ9_floorDiv_f86c9 16 = .ok (.lmul, 1) := by decide +kernel
theorem dJ9_floorDiv_f86c9_17 : decode cJ9_floorDiv_f86c9 17 = .ok (.lload_n 0, 1) := by decide +kernel
theorem dJ9_floorDiv_f86c9_18 : decode cJ9_floorDiv_f86c9 18 = .ok (.lcmp, 1) := by decide +kernel
theorem dJ9_floorDiv_f86c9_19 : decode cJ9_floorDiv_f86c9 19 = .ok (.ifCond .eq 8, 3) := by decide +kernel
theorem dJ9_floorDiv_f86c9_22 : decode cJ9_floorDiv_f86c9 22 = .ok (.lload 4, 2) := by decide +kernel
theorem dJ9_floorDiv_f86c9_24 : decode cJ9_floorDiv_f86c9 24 = .ok (.lconst 1, 1) := by decide +kernel
theorem dJ9_floorDiv_f86c9_25 : decode cJ9_floorDiv_f86c9 25 = .ok (.lsub, 1) := by decide +kernel
theorem dJ9_floorDiv_f86c9_26 : decode cJ9_floorDiv_f86c9 26 = .ok (.lreturn, 1) := by decide +kernel
theorem dJ9_floorDiv_f86c9_27 : decode cJ9_floorDiv_f86c9 27 = .ok (.lload 4, 2) := by decide +kernel
theorem dJ9_floorDiv_f86c9_29 : decode cJ9_floorDiv_f86c9 29 = .ok (.lreturn, 1) := by decide +kernel
theorem dJ9_abs_0f7a4_0 : decode cJ9_abs_0f7a4 0 = .ok (.iload_n 0, 1) := by decide +kernel
theorem dJ9_abs_0f7a4_1 : decode cJ9_abs_0f7a4 1 = .ok (.ifCond .ge 8, 3) := by decide +kernel
theorem dJ9_abs_0f7a4_4 : decode cJ9_abs_0f7a4 4 = .ok (.iload_n 0, 1) := by decide +kernel
theorem dJ9_abs_0f7a4_5 : decode cJ9_abs_0f7a4 5 = .ok (.ineg, 1) := by decide +kernel
theorem dJ9_abs_0f7a4_6 : decode cJ9_abs_0f7a4 6 = .ok (.goto 4, 3) := by decide +kernel
theorem dJ9_abs_0f7a4_9 : decode cJ9_abs_0f7a4 9 = .ok (.iload_n 0, 1) := by decide +kernel
theorem dJ9_abs_0f7a4_10 : decode cJ9_abs_0f7a4 10 = .ok (.ireturn, 1) := by decide +kernel
theorem dJ9_abs_067f4_0 : decode cJ9_abs_067f4 0 = .ok (.lload_n 0, 1) := by decide +kernel
theorem dJ9_abs_067f4_1 : decode cJ9_abs_067f4 1 = .ok (.lconst 0, 1) := by decide +kernel
theorem dJ9_abs_067f4_2 : decode cJ9_abs_067f4 2 = .ok (.lcmp, 1) := by decide +kernel
theorem dJ9_abs_067f4_3 : decode cJ9_abs_067f4 3 = .ok (.ifCond .ge 8, 3) := by decide +kernel
theorem dJ9_abs_067f4_6 : decode cJ9_abs_067f4 6 = .ok (.lload_n 0, 1) := by decide +kernel
theorem dJ9_abs_067f4_7 : decode cJ9_abs_067f4 7 = .ok (.lneg, 1) := by decide +kernel
theorem dJ9_abs_067f4_8 : decode cJ9_abs_067f4 8 = .ok (.goto 4, 3) := by decide +kernel
theorem dJ9_abs_067f4_11 : decode cJ9_abs_067f4 11 = .ok (.lload_n 0, 1) := by decide +kernel
theorem dJ9_abs_067f4_12 : decode cJ9_abs_067f4 12 = .ok (.lreturn, 1) := by decide +kernel
theorem dJ9_max_7cf53_0 : decode cJ9_max_7cf53 0 = .ok (.iload_n 0, 1) := by decide +kernel
theorem dJ9_max_7cf53_1 : decode cJ9_max_7cf53 1 = .ok (.iload_n 1, 1) := by decide +kernel
theorem dJ9_max_7cf53_2 : decode cJ9_max_7cf53 2 = .ok (.if_icmp .lt 7, 3) := by decide +kernel
theorem dJ9_max_7cf53_5 : decode cJ9_max_7cf53 5 = .ok (.iload_n 0, 1) := by decide +kernel
theorem dJ9_max_7cf53_6 : decode cJ9_max_7cf53 6 = .ok (.goto 4, 3) := by decide +kernel
theorem dJ9_max_7cf53_9 : decode cJ9_max_7cf53 9 = .ok (.iload_n 1, 1) := by decide +kernel
theorem dJ9_max_7cf53_10 : decode cJ9_max_7cf53 10 = .ok (.ireturn, 1) := by decide +kernel
theorem dJ9_max_f86c9_0 : decode cJ9_max_f86c9 0 = .ok (.lload_n 0, 1) := by decide +kernel
theorem dJ9_max_f86c9_1 : decode cJ9_max_f86c9 1 = .ok (.lload_n 2, 1) := by decide +kernel
theorem dJ9_max_f86c9_2 : decode cJ9_max_f86c9 2 = .ok (.lcmp, 1) := by decide +kernel
theorem dJ9_max_f86c9_3 : decode cJ9_max_f86c9 3 = .ok (.ifCond .lt 7, 3) := by decide +kernel
theorem dJ9_max_f86c9_6 : decode cJ9_max_f86c9 6 = .ok (.lload_n 0, 1) := by decide +kernel
theorem dJ9_max_f86c9_7 : decode cJ9_max_f86c9 7 = .ok (.goto 4, 3) := by decide +kernel
theorem dJ9_max_f86c9_10 : decode cJ9_max_f86c9 10 = .ok (.lload_n 2, 1) := by decide +kernel
theorem dJ9_max_f86c9_11 : decode cJ9_max_f86c9 11 = .ok (.lreturn, 1) := by decide +kernel
theorem dJ9_min_7cf53_0 : decode cJ9_min_7cf53 0 = .ok (.iload_n 0, 1) := by decide +kernel
theorem dJ9_min_7cf53_1 : decode cJ9_min_7cf53 1 = .ok (.iload_n 1, 1) := by decide +kernel
theorem dJ9_min_7cf53_2 : decode cJ9_min_7cf53 2 = .ok (.if_icmp .gt 7, 3) := by decide +kernel
theorem dJ9_min_7cf53_5 : decode cJ9_min_7cf53 5 = .ok (.iload_n 0, 1) := by decide +kernel
theorem dJ9_min_7cf53_6 : decode cJ9_min_7cf53 6 = .ok (.goto 4, 3) := by decide +kernel
theorem dJ9_min_7cf53_9 : decode cJ9_min_7cf53 9 = .ok (.iload_n 1, 1) := by decide +kernel
theorem dJ9_min_7cf53_10 : decode cJ9_min_7cf53 10 = .ok (.ireturn, 1) := by decide +kernel
theorem dJ9_min_f86c9_0 : decode cJ9_min_f86c9 0 = .ok (.lload_n 0, 1) := by decide +kernel
theorem dJ9_min_f86c9_1 : decode cJ9_min_f86c9 1 = .ok (.lload_n 2, 1) := by decide +kernel
theorem dJ9_min_f86c9_2 : decode cJ9_min_f86c9 2 = .ok (.lcmp, 1) := by decide +kernel
theorem dJ9_min_f86c9_3 : decode cJ9_min_f86c9 3 = .ok (.ifCond .gt 7, 3) := by decide +kernel
theorem dJ9_min_f86c9_6 : decode cJ9_min_f86c9 6 = .ok (.lload_n 0, 1) := by decide +kernel
theorem dJ9_min_f86c9_7 : decode cJ9_min_f86c9 7 = .ok (.goto 4, 3) := by decide +kernel
theorem dJ9_min_f86c9_10 : decode cJ9_min_f86c9 10 = .ok (.lload_n 2, 1) := by decide +kernel
theorem dJ9_min_f86c9_11 : decode cJ9_min_f86c9 11 = .ok (.lreturn, 1) := by decide +kernel
theorem dJ0_length_8abf5_0 : decode cJ0_length_8abf5 0 = .ok (.aload_n 0, 1) := by decide +kernel
theorem dJ0_length_8abf5_1 : decode cJ0_length_8abf5 1 = .ok (.getfield 9, 3) := by decide +kernel
theorem dJ0_length_8abf5_4 : decode cJ0_length_8abf5 4 = .ok (.arraylength, 1) := by decide +kernel
theorem dJ0_length_8abf5_5 : decode cJ0_length_8abf5 5 = .ok (.aload_n 0, 1) := by decide +kernel
theorem dJ0_length_8abf5_6 : decode cJ0_length_8abf5 6 = .ok (.invokevirtual 335, 3) := by decide +kernel
theorem dJ0_length_8abf5_9 : decode cJ0_length_8abf5 9 = .ok (.ishr, 1) := by decide +kernel
theorem dJ0_length_8abf5_10 : decode cJ0_length_8abf5 10 = .ok (.ireturn, 1) := by decide +kernel
theorem dJ0_charAt_5068e_0 : decode cJ0_charAt_5068e 0 = .ok (.aload_n 0, 1) := by decide +kernel
theorem dJ0_charAt_5068e_1 : decode cJ0_charAt_5068e 1 = .ok (.invokevirtual 492, 3) := by decide +kernel
theorem dJ0_charAt_5068e_4 : decode cJ0_charAt_5068e 4 = .ok (.ifCond .eq 12, 3) := by decide +kernel
theorem dJ0_charAt_5068e_7 : decode cJ0_charAt_5068e 7 = .ok (.aload_n 0, 1) := by decide +kernel
theorem dJ0_charAt_5068e_8 : decode cJ0_charAt_5068e 8 = .ok (.getfield 9, 3) := by decide +kernel
theorem dJ0_charAt_5068e_11 : decode cJ0_charAt_5068e 11 = .ok (.iload_n 1, 1) := by decide +kernel
theorem dJ0_charAt_5068e_12 : decode cJ0_charAt_5068e 12 = .ok (.invokestatic 495, 3) := by decide +kernel
theorem dJ0_charAt_5068e_15 : decode cJ0_charAt_5068e 15 = .ok (.ireturn, 1) := by decide +kernel
theorem dJ0_charAt_5068e_16 : decode cJ0_charAt_5068e 16 = .ok (.aload_n 0, 1) := by decide +kernel
theorem dJ0_charAt_5068e_17 : decode cJ0_charAt_5068e 17 = .ok (.getfield 9, 3) := by decide +kernel
theorem dJ0_charAt_5068e_20 : decode cJ0_charAt_5068e 20 = .ok (.iload_n 1, 1) := by decide +kernel
theorem dJ0_charAt_5068e_21 : decode cJ0_charAt_5068e 21 = .ok (.invokestatic 498, 3) := by decide +kernel
theorem dJ0_charAt_5068e_24 : decode cJ0_charAt_5068e 24 = .ok (.ireturn, 1) := by decide +kernel
theorem dJ0_coder_7d493_0 : decode cJ0_coder_7d493 0 = .ok (.getstatic 38, 3) := by decide +kernel
theorem dJ0_coder_7d493_3 : decode cJ0_coder_7d493 3 = .ok (.ifCond .eq 10, 3) := by decide +kernel
theorem dJ0_coder_7d493_6 : decode cJ0_coder_7d493 6 = .ok (.aload_n 0, 1) := by decide +kernel
theorem dJ0_coder_7d493_7 : decode cJ0_coder_7d493 7 = .ok (.getfield 15, 3) := by decide +kernel
theorem dJ0_coder_7d493_10 : decode cJ0_coder_7d493 10 = .ok (.goto 4, 3) := by decide +kernel
theorem dJ0_coder_7d493_13 : decode cJ0_coder_7d493 13 = .ok (.iconst 1, 1) := by decide +kernel
theorem dJ0_coder_7d493_14 : decode cJ0_coder_7d493 14 = .ok (.ireturn, 1) := by decide +kernel
theorem dJ0_isLatin1_aae02_0 : decode cJ0_isLatin1_aae02 0 = .ok (.getstatic 38, 3) := by decide +kernel
theorem dJ0_isLatin1_aae02_3 : decode cJ0_isLatin1_aae02 3 = .ok (.ifCond .eq 14, 3) := by decide +kernel
theorem dJ0_isLatin1_aae02_6 : decode cJ0_isLatin1_aae02 6 = .ok (.aload_n 0, 1) := by decide +kernel
theorem dJ0_isLatin1_aae02_7 : decode cJ0_isLatin1_aae02 7 = .ok (.getfield 15, 3) := by decide +kernel
theorem dJ0_isLatin1_aae02_10 : decode cJ0_isLatin1_aae02 10 = .ok (.ifCond .ne 7, 3) := by decide +kernel
theorem dJ0_isLatin1_aae02_13 : decode cJ0_isLatin1_aae02 13 = .ok (.iconst 1, 1) := by decide +kernel
theorem dJ0_isLatin1_aae02_14 : decode cJ0_isLatin1_aae02 14 = .ok (.goto 4, 3) := by decide +kernel
theorem dJ0_isLatin1_aae02_17 : decode cJ0_isLatin1_aae02 17 = .ok (.iconst 0, 1) := by decide +kernel
theorem dJ0_isLatin1_aae02_18 : decode cJ0_isLatin1_aae02 18 = .ok (.ireturn, 1) := by decide +kernel
theorem dJ0_checkIndex_df160_0 : decode cJ0_checkIndex_df160 0 = .ok (.iload_n 0, 1) := by decide +kernel
theorem dJ0_checkIndex_df160_1 : decode cJ0_checkIndex_df160 1 = .ok (.iload_n 1, 1) := by decide +kernel
theorem dJ0_checkIndex_df160_2 : decode cJ0_checkIndex_df160 2 = .ok (.getstatic 1053, 3) := by decide +kernel
theorem dJ0_checkIndex_df160_5 : decode cJ0_checkIndex_df160 5 = .ok (.invokestatic 1059, 3) := by decide +kernel
theorem dJ0_checkIndex_df160_8 : decode cJ0_checkIndex_df160 8 = .ok (.pop, 1) := by decide +kernel
theorem dJ0_checkIndex_df160_9 : decode cJ0_checkIndex_df160 9 = .ok (.return_, 1) := by decide +kernel
theorem dJ1_charAt_3b067_0 : decode cJ1_charAt_3b067 0 = .ok (.iload_n 1, 1) := by decide +kernel
theorem dJ1_charAt_3b067_1 : decode cJ1_charAt_3b067 1 = .ok (.aload_n 0, 1) := by decide +kernel
theorem dJ1_charAt_3b067_2 : decode cJ1_charAt_3b067 2 = .ok (.arraylength, 1) := by decide +kernel
theorem dJ1_charAt_3b067_3 : decode cJ1_charAt_3b067 3 = .ok (.invokestatic 9, 3) := by decide +kernel
theorem dJ1_charAt_3b067_6 : decode cJ1_charAt_3b067 6 = .ok (.aload_n 0, 1) := by decide +kernel
theorem dJ1_charAt_3b067_7 : decode cJ1_charAt_3b067 7 = .ok (.iload_n 1, 1) := by decide +kernel
theorem dJ1_charAt_3b067_8 : decode cJ1_charAt_3b067 8 = .ok (.baload, 1) := by decide +kernel
theorem dJ1_charAt_3b067_9 : decode cJ1_charAt_3b067 9 = .ok (.sipush 255, 3) := by decide +kernel
theorem dJ1_charAt_3b067_12 : decode cJ1_charAt_3b067 12 = .ok (.iand, 1) := by decide +kernel
theorem dJ1_charAt_3b067_13 : decode cJ1_charAt_3b067 13 = .ok (.i2c, 1) := by decide +kernel
theorem dJ1_charAt_3b067_14 : decode cJ1_charAt_3b067 14 = .ok (.ireturn, 1) := by decide +kernel
theorem dJ2_getChar_3b067_0 : decode cJ2_getChar_3b067 0 = .ok (.getstatic 44, 3) := by decide +kernel
theorem dJ2_getChar_3b067_3 : decode cJ2_getChar_3b067 3 = .ok (.ifCond .ne 25, 3) := by decide +kernel
theorem dJ2_getChar_3b067_6 : decode cJ2_getChar_3b067 6 = .ok (.iload_n 1, 1) := by decide +kernel
theorem dJ2_getChar_3b067_7 : decode cJ2_getChar_3b067 7 = .ok (.ifCond .lt 11, 3) := by decide +kernel
theorem dJ2_getChar_3b067_10 : decode cJ2_getChar_3b067 10 = .ok (.iload_n 1, 1) := by decide +kernel
theorem dJ2_getChar_3b067_11 : decode cJ2_getChar_3b067 11 = .ok (.aload_n 0, 1) := by decide +kernel
theorem dJ2_getChar_3b067_12 : decode cJ2_getChar_3b067 12 = .ok (.invokestatic 48, 3) := by decide +kernel
theorem dJ2_getChar_3b067_15 : decode cJ2_getChar_3b067 15 = .ok (.if_icmp .lt 13, 3) := by decide +kernel
theorem dJ2_getChar_3b067_18 : decode cJ2_getChar_3b067 18 = .ok (.new 52, 3) := by decide +kernel
theorem dJ2_getChar_3b067_21 : decode cJ2_getChar_3b067 21 = .ok (.dup, 1) := by decide +kernel
theorem dJ2_getChar_3b067_22 : decode cJ2_getChar_3b067 22 = .ok (.ldc 54, 2) := by decide +kernel
theorem dJ2_getChar_3b067_24 : decode cJ2_getChar_3b067 24 = .ok (.invokespecial 56, 3) := by decide +kernel
theorem dJ2_getChar_3b067_27 : decode cJ2_getChar_3b067 27 = .ok (.athrow, 1) := by decide +kernel
theorem dJ2_getChar_3b067_28 : decode cJ2_getChar_3b067 28 = .ok (.iload_n 1, 1) := by decide +kernel
theorem dJ2_getChar_3b067_29 : decode cJ2_getChar_3b067 29 = .ok (.iconst 1, 1) := by decide +kernel
theorem dJ2_getChar_3b067_30 : decode cJ2_getChar_3b067 30 = .ok (.ishl, 1) := by decide +kernel
theorem dJ2_getChar_3b067_31 : decode cJ2_getChar_3b067 31 = .ok (.istore_n 1, 1) := by decide +kernel
theorem dJ2_getChar_3b067_32 : decode cJ2_getChar_3b067 32 = .ok (.aload_n 0, 1) := by decide +kernel
theorem dJ2_getChar_3b067_33 : decode cJ2_getChar_3b067 33 = .ok (.iload_n 1, 1) := by decide +kernel
theorem dJ2_getChar_3b067_34 : decode cJ2_getChar_3b067 34 = .ok (.iinc 1 1, 3) := by decide +kernel
theorem dJ2_getChar_3b067_37 : decode cJ2_getChar_3b067 37 = .ok (.baload, 1) := by decide +kernel
theorem dJ2_getChar_3b067_38 : decode cJ2_getChar_3b067 38 = .ok (.sipush 255, 3) := by decide +kernel
theorem dJ2_getChar_3b067_41 : decode cJ2_getChar_3b067 41 = .ok (.iand, 1) := by decide +kernel
theorem dJ2_getChar_3b067_42 : decode cJ2_getChar_3b067 42 = .ok (.getstatic 59, 3) := by decide +kernel
theorem dJ2_getChar_3b067_45 : decode cJ2_getChar_3b067 45 = .ok (.ishl, 1) := by decide +kernel
theorem dJ2_getChar_3b067_46 : decode cJ2_getChar_3b067 46 = .ok (.aload_n 0, 1) := by decide +kernel
theorem dJ2_getChar_3b067_47 : decode cJ2_getChar_3b067 47 = .ok (.iload_n 1, 1) := by decide +kernel
theorem dJ2_getChar_3b067_48 : decode cJ2_getChar_3b067 48 = .ok (.baload, 1) := by decide +kernel
theorem dJ2_getChar_3b067_49 : decode cJ2_getChar_3b067 49 = .ok (.sipush 255, 3) := by decide +kernel
theorem dJ2_getChar_3b067_52 : decode cJ2_getChar_3b067 52 = .ok (.iand, 1) := by decide +kernel
theorem dJ2_getChar_3b067_53 : decode cJ2_getChar_3b067 53 = .ok (.getstatic 63, 3) := by decide +kernel
theorem dJ2_getChar_3b067_56 : decode cJ2_getChar_3b067 56 = .ok (.ishl, 1) := by decide +kernel
theorem dJ2_getChar_3b067_57 : decode cJ2_getChar_3b067 57 = .ok (.ior, 1) := by decide +kernel
theorem dJ2_getChar_3b067_58 : decode cJ2_getChar_3b067 58 = .ok (.i2c, 1) := by decide +kernel
theorem dJ2_getChar_3b067_59 : decode cJ2_getChar_3b067 59 = .ok (.ireturn, 1) := by decide +kernel
theorem dJ2_length_9d52b_0 : decode cJ2_length_9d52b 0 = .ok (.aload_n 0, 1) := by decide +kernel
theorem dJ2_length_9d52b_1 : decode cJ2_length_9d52b 1 = .ok (.arraylength, 1) := by decide +kernel
theorem dJ2_length_9d52b_2 : decode cJ2_length_9d52b 2 = .ok (.iconst 1, 1) := by decide +kernel
theorem dJ2_length_9d52b_3 : decode cJ2_length_9d52b 3 = .ok (.ishr, 1) := by decide +kernel
theorem dJ2_length_9d52b_4 : decode cJ2_length_9d52b 4 = .ok (.ireturn, 1) := by decide +kernel
theorem dJ2_charAt_3b067_0 : decode cJ2_charAt_3b067 0 = .ok (.iload_n 1, 1) := by decide +kernel
theorem dJ2_charAt_3b067_1 : decode cJ2_charAt_3b067 1 = .ok (.aload_n 0, 1) := by decide +kernel
theorem dJ2_charAt_3b067_2 : decode cJ2_charAt_3b067 2 = .ok (.invokestatic 67, 3) := by decide +kernel
theorem dJ2_charAt_3b067_5 : decode cJ2_charAt_3b067 5 = .ok (.aload_n 0, 1) := by decide +kernel
theorem dJ2_charAt_3b067_6 : decode cJ2_charAt_3b067 6 = .ok (.iload_n 1, 1) := by decide +kernel
theorem dJ2_charAt_3b067_7 : decode cJ2_charAt_3b067 7 = .ok (.invokestatic 71, 3) := by decide +kernel
theorem dJ2_charAt_3b067_10 : decode cJ2_charAt_3b067 10 = .ok (.ireturn, 1) := by decide +kernel
theorem dJ2_checkIndex_2214a_0 : decode cJ2_checkIndex_2214a 0 = .ok (.iload_n 0, 1) := by decide +kernel
theorem dJ2_checkIndex_2214a_1 : decode cJ2_checkIndex_2214a 1 = .ok (.aload_n 1, 1) := by decide +kernel
theorem dJ2_checkIndex_2214a_2 : decode cJ2_checkIndex_2214a 2 = .ok (.invokestatic 48, 3) := by decide +kernel
theorem dJ2_checkIndex_2214a_5 : decode cJ2_checkIndex_2214a 5 = .ok (.invokestatic 414, 3) := by decide +kernel
theorem dJ2_checkIndex_2214a_8 : decode cJ2_checkIndex_2214a 8 = .ok (.return_, 1) := by decide +kernel
theorem dJ7_fill_53178_0 : decode cJ7_fill_53178 0 = .ok (.iconst 0, 1) := by decide +kernel
theorem dJ7_fill_53178_1 : decode cJ7_fill_53178 1 = .ok (.istore_n 2, 1) := by decide +kernel
theorem dJ7_fill_53178_2 : decode cJ7_fill_53178 2 = .ok (.aload_n 0, 1) := by decide +kernel
theorem dJ7_fill_53178_3 : decode cJ7_fill_53178 3 = .ok (.arraylength, 1) := by decide +kernel
theorem dJ7_fill_53178_4 : decode cJ7_fill_53178 4 = .ok (.istore_n 3, 1) := by decide +kernel
theorem dJ7_fill_53178_5 : decode cJ7_fill_53178 5 = .ok (.iload_n 2, 1) := by decide +kernel
theorem dJ7_fill_53178_6 : decode cJ7_fill_53178 6 = .ok (.iload_n 3, 1) := by decide +kernel
theorem dJ7_fill_53178_7 : decode cJ7_fill_53178 7 = .ok (.if_icmp .ge 13, 3) := by decide +kernel
theorem dJ7_fill_53178_10 : decode cJ7_fill_53178 10 = .ok (.aload_n 0, 1) := by decide +kernel
theorem dJ7_fill_53178_11 : decode cJ7_fill_53178 11 = .ok (.iload_n 2, 1) := by decide +kernel
theorem dJ7_fill_53178_12 : decode cJ7_fill_53178 12 = .ok (.iload_n 1, 1) := by decide +kernel
theorem dJ7_fill_53178_13 : decode cJ7_fill_53178 13 = .ok (.iastore, 1) := by decide +kernel
theorem dJ7_fill_53178_14 : decode cJ7_fill_53178 14 = .ok (.iinc 2 1, 3) := by decide +kernel
theorem dJ7_fill_53178_17 : decode cJ7_fill_53178 17 = .ok (.goto (-12), 3) := by decide +kernel
theorem dJ7_fill_53178_20 : decode cJ7_fill_53178 20 = .ok (.return_, 1) := by decide +kernel
theorem dJ3_checkIndex_8e157_0 : decode cJ3_checkIndex_8e157 0 = .ok (.iload_n 0, 1) := by decide +kernel
theorem dJ3_checkIndex_8e157_1 : decode cJ3_checkIndex_8e157 1 = .ok (.ifCond .lt 8, 3) := by decide +kernel
theorem dJ3_checkIndex_8e157_4 : decode cJ3_checkIndex_8e157 4 = .ok (.iload_n 0, 1) := by decide +kernel
theorem dJ3_checkIndex_8e157_5 : decode cJ3_checkIndex_8e157 5 = .ok (.iload_n 1, 1) := by decide +kernel
theorem dJ3_checkIndex_8e157_6 : decode cJ3_checkIndex_8e157 6 = .ok (.if_icmp .lt 10, 3) := by decide +kernel
theorem dJ3_checkIndex_8e157_9 : decode cJ3_checkIndex_8e157 9 = .ok (.aload_n 2, 1) := by decide +kernel
theorem dJ3_checkIndex_8e157_10 : decode cJ3_checkIndex_8e157 10 = .ok (.iload_n 0, 1) := by decide +kernel
theorem dJ3_checkIndex_8e157_11 : decode cJ3_checkIndex_8e157 11 = .ok (.iload_n 1, 1) := by decide +kernel
theorem dJ3_checkIndex_8e157_12 : decode cJ3_checkIndex_8e157 12 = .ok (.invokestatic 95, 3) := by decide +kernel
theorem dJ3_checkIndex_8e157_15 : decode cJ3_checkIndex_8e157 15 = .ok (.athrow, 1) := by decide +kernel
theorem dJ3_checkIndex_8e157_16 : decode cJ3_checkIndex_8e157 16 = .ok (.iload_n 0, 1) := by decide +kernel
theorem dJ3_checkIndex_8e157_17 : decode cJ3_checkIndex_8e157 17 = .ok (.ireturn, 1) := by decide +kernel

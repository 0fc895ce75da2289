/-! decode rows -/
theorem dX10_init_0 : decode cX10_init 0 = .ok (.aload_n 0, 1) := by decide +kernel
theorem dX10_init_1 : decode cX10_init 1 = .ok (.invokespecial 1, 3) := by decide +kernel
theorem dX10_init_4 : decode cX10_init 4 = .ok (.aload_n 0, 1) := by decide +kernel
theorem dX10_init_5 : decode cX10_init 5 = .ok (.iconst 0, 1) := by decide +kernel
theorem dX10_init_6 : decode cX10_init 6 = .ok (.putfield 9, 3) := by decide +kernel
theorem dX10_init_9 : decode cX10_init 9 = .ok (.aload_n 0, 1) := by decide +kernel
theorem dX10_init_10 : decode cX10_init 10 = .ok (.new 13, 3) := by decide +kernel
theorem dX10_init_13 : decode cX10_init 13 = .ok (.dup, 1) := by decide +kernel
theorem dX10_init_14 : decode cX10_init 14 = .ok (.invokespecial 15, 3) := by decide +kernel
theorem dX10_init_17 : decode cX10_init 17 = .ok (.putfield 16, 3) := by decide +kernel
theorem dX10_init_20 : decode cX10_init 20 = .ok (.aload_n 0, 1) := by decide +kernel
theorem dX10_init_21 : decode cX10_init 21 = .ok (.new 20, 3) := by decide +kernel
theorem dX10_init_24 : decode cX10_init 24 = .ok (.dup, 1) := by decide +kernel
theorem dX10_init_25 : decode cX10_init 25 = .ok (.invokespecial 22, 3) := by decide +kernel
theorem dX10_init_28 : decode cX10_init 28 = .ok (.putfield 23, 3) := by decide +kernel
theorem dX10_init_31 : decode cX10_init 31 = .ok (.aload_n 0, 1) := by decide +kernel
theorem dX10_init_32 : decode cX10_init 32 = .ok (.new 20, 3) := by decide +kernel
theorem dX10_init_35 : decode cX10_init 35 = .ok (.dup, 1) := by decide +kernel
theorem dX10_init_36 : decode cX10_init 36 = .ok (.invokespecial 22, 3) := by decide +kernel
theorem dX10_init_39 : decode cX10_init 39 = .ok (.putfield 27, 3) := by decide +kernel
theorem dX10_init_42 : decode cX10_init 42 = .ok (.aload_n 0, 1) := by decide +kernel
theorem dX10_init_43 : decode cX10_init 43 = .ok (.new 30, 3) := by decide +kernel
theorem dX10_init_46 : decode cX10_init 46 = .ok (.dup, 1) := by decide +kernel
theorem dX10_init_47 : decode cX10_init 47 = .ok (.invokespecial 32, 3) := by decide +kernel
theorem dX10_init_50 : decode cX10_init 50 = .ok (.putfield 33, 3) := by decide +kernel
theorem dX10_init_53 : decode cX10_init 53 = .ok (.aload_n 0, 1) := by decide +kernel
theorem dX10_init_54 : decode cX10_init 54 = .ok (.new 37, 3) := by decide +kernel
theorem dX10_init_57 : decode cX10_init 57 = .ok (.dup, 1) := by decide +kernel
theorem dX10_init_58 : decode cX10_init 58 = .ok (.invokespecial 39, 3) := by decide +kernel
theorem dX10_init_61 : decode cX10_init 61 = .ok (.putfield 40, 3) := by decide +kernel
theorem dX10_init_64 : decode cX10_init 64 = .ok (.aload_n 0, 1) := by decide +kernel
theorem dX10_init_65 : decode cX10_init 65 = .ok (.new 44, 3) := by decide +kernel
theorem dX10_init_68 : decode cX10_init 68 = .ok (.dup, 1) := by decide +kernel
theorem dX10_init_69 : decode cX10_init 69 = .ok (.invokespecial 46, 3) := by decide +kernel
theorem dX10_init_72 : decode cX10_init 72 = .ok (.putfield 47, 3) := by decide +kernel
theorem dX10_init_75 : decode cX10_init 75 = .ok (.aload_n 0, 1) := by decide +kernel
theorem dX10_init_76 : decode cX10_init 76 = .ok (.new 51, 3) := by decide +kernel
theorem dX10_init_79 : decode cX10_init 79 = .ok (.dup, 1) := by decide +kernel
theorem dX10_init_80 : decode cX10_init 80 = .ok (.invokespecial 53, 3) := by decide +kernel
theorem dX10_init_83 : decode cX10_init 83 = .ok (.putfield 54, 3) := by decide +kernel
theorem dX10_init_86 : decode cX10_init 86 = .ok (.aload_n 0, 1) := by decide +kernel
theorem dX10_init_87 : decode cX10_init 87 = .ok (.new 58, 3) := by decide +kernel
theorem dX10_init_90 : decode cX10_init 90 = .ok (.dup, 1) := by decide +kernel
theorem dX10_init_91 : decode cX10_init 91 = .ok (.invokespecial 60, 3) := by decide +kernel
theorem dX10_init_94 : decode cX10_init 94 = .ok (.putfield 61, 3) := by decide +kernel
theorem dX10_init_97 : decode cX10_init 97 = .ok (.aload_n 0, 1) := by decide +kernel
theorem dX10_init_98 : decode cX10_init 98 = .ok (.new 65, 3) := by decide +kernel
theorem dX10_init_101 : decode cX10_init 101 = .ok (.dup, 1) := by decide +kernel
theorem dX10_init_102 : decode cX10_init 102 = .ok (.invokespecial 67, 3) := by decide +kernel
theorem dX10_init_105 : decode cX10_init 105 = .ok (.putfield 68, 3) := by decide +kernel
theorem dX10_init_108 : decode cX10_init 108 = .ok (.return_, 1) := by decide +kernel
theorem dX10_feed_0 : decode cX10_feed 0 = .ok (.aload_n 0, 1) := by decide +kernel
theorem dX10_feed_1 : decode cX10_feed 1 = .ok (.getfield 16, 3) := by decide +kernel
theorem dX10_feed_4 : decode cX10_feed 4 = .ok (.invokevirtual 72, 3) := by decide +kernel
theorem dX10_feed_7 : decode cX10_feed 7 = .ok (.ifCond .ne 5, 3) := by decide +kernel
theorem dX10_feed_10 : decode cX10_feed 10 = .ok (.iconst (-1), 1) := by decide +kernel
theorem dX10_feed_11 : decode cX10_feed 11 = .ok (.ireturn, 1) := by decide +kernel
theorem dX10_feed_12 : decode cX10_feed 12 = .ok (.aload_n 0, 1) := by decide +kernel
theorem dX10_feed_13 : decode cX10_feed 13 = .ok (.getfield 16, 3) := by decide +kernel
theorem dX10_feed_16 : decode cX10_feed 16 = .ok (.iload_n 1, 1) := by decide +kernel
theorem dX10_feed_17 : decode cX10_feed 17 = .ok (.invokevirtual 76, 3) := by decide +kernel
theorem dX10_feed_20 : decode cX10_feed 20 = .ok (.aload_n 0, 1) := by decide +kernel
theorem dX10_feed_21 : decode cX10_feed 21 = .ok (.getfield 16, 3) := by decide +kernel
theorem dX10_feed_24 : decode cX10_feed 24 = .ok (.iload_n 2, 1) := by decide +kernel
theorem dX10_feed_25 : decode cX10_feed 25 = .ok (.invokevirtual 76, 3) := by decide +kernel
theorem dX10_feed_28 : decode cX10_feed 28 = .ok (.aload_n 0, 1) := by decide +kernel
theorem dX10_feed_29 : decode cX10_feed 29 = .ok (.getfield 16, 3) := by decide +kernel
theorem dX10_feed_32 : decode cX10_feed 32 = .ok (.iload_n 3, 1) := by decide +kernel
theorem dX10_feed_33 : decode cX10_feed 33 = .ok (.invokevirtual 76, 3) := by decide +kernel
theorem dX10_feed_36 : decode cX10_feed 36 = .ok (.aload_n 0, 1) := by decide +kernel
theorem dX10_feed_37 : decode cX10_feed 37 = .ok (.getfield 16, 3) := by decide +kernel
theorem dX10_feed_40 : decode cX10_feed 40 = .ok (.iload 4, 2) := by decide +kernel
theorem dX10_feed_42 : decode cX10_feed 42 = .ok (.invokevirtual 76, 3) := by decide +kernel
theorem dX10_feed_45 : decode cX10_feed 45 = .ok (.aload_n 0, 1) := by decide +kernel
theorem dX10_feed_46 : decode cX10_feed 46 = .ok (.getfield 16, 3) := by decide +kernel
theorem dX10_feed_49 : decode cX10_feed 49 = .ok (.iload 5, 2) := by decide +kernel
theorem dX10_feed_51 : decode cX10_feed 51 = .ok (.invokevirtual 76, 3) := by decide +kernel
theorem dX10_feed_54 : decode cX10_feed 54 = .ok (.aload_n 0, 1) := by decide +kernel
theorem dX10_feed_55 : decode cX10_feed 55 = .ok (.getfield 16, 3) := by decide +kernel
theorem dX10_feed_58 : decode cX10_feed 58 = .ok (.invokevirtual 80, 3) := by decide +kernel
theorem dX10_feed_61 : decode cX10_feed 61 = .ok (.ireturn, 1) := by decide +kernel
theorem dX10_desk_0 : decode cX10_desk 0 = .ok (.aload_n 0, 1) := by decide +kernel
theorem dX10_desk_1 : decode cX10_desk 1 = .ok (.iload_n 1, 1) := by decide +kernel
theorem dX10_desk_2 : decode cX10_desk 2 = .ok (.ifCond .lt 18, 3) := by decide +kernel
theorem dX10_desk_5 : decode cX10_desk 5 = .ok (.iload_n 1, 1) := by decide +kernel
theorem dX10_desk_6 : decode cX10_desk 6 = .ok (.aload_n 0, 1) := by decide +kernel
theorem dX10_desk_7 : decode cX10_desk 7 = .ok (.getfield 16, 3) := by decide +kernel
theorem dX10_desk_10 : decode cX10_desk 10 = .ok (.invokevirtual 80, 3) := by decide +kernel
theorem dX10_desk_13 : decode cX10_desk 13 = .ok (.if_icmp .gt 7, 3) := by decide +kernel
theorem dX10_desk_16 : decode cX10_desk 16 = .ok (.iconst 1, 1) := by decide +kernel
theorem dX10_desk_17 : decode cX10_desk 17 = .ok (.goto 4, 3) := by decide +kernel
theorem dX10_desk_20 : decode cX10_desk 20 = .ok (.iconst 0, 1) := by decide +kernel
theorem dX10_desk_21 : decode cX10_desk 21 = .ok (.iconst 2, 1) := by decide +kernel
theorem dX10_desk_22 : decode cX10_desk 22 = .ok (.invokevirtual 84, 3) := by decide +kernel
theorem dX10_desk_25 : decode cX10_desk 25 = .ok (.ifCond .eq 5, 3) := by decide +kernel
theorem dX10_desk_28 : decode cX10_desk 28 = .ok (.iconst (-1), 1) := by decide +kernel
theorem dX10_desk_29 : decode cX10_desk 29 = .ok (.ireturn, 1) := by decide +kernel
theorem dX10_desk_30 : decode cX10_desk 30 = .ok (.aload_n 0, 1) := by decide +kernel
theorem dX10_desk_31 : decode cX10_desk 31 = .ok (.getfield 16, 3) := by decide +kernel
theorem dX10_desk_34 : decode cX10_desk 34 = .ok (.iload_n 1, 1) := by decide +kernel
theorem dX10_desk_35 : decode cX10_desk 35 = .ok (.aload_n 0, 1) := by decide +kernel
theorem dX10_desk_36 : decode cX10_desk 36 = .ok (.getfield 27, 3) := by decide +kernel
theorem dX10_desk_39 : decode cX10_desk 39 = .ok (.invokevirtual 88, 3) := by decide +kernel
theorem dX10_desk_42 : decode cX10_desk 42 = .ok (.istore_n 2, 1) := by decide +kernel
theorem dX10_desk_43 : decode cX10_desk 43 = .ok (.aload_n 0, 1) := by decide +kernel
theorem dX10_desk_44 : decode cX10_desk 44 = .ok (.iload_n 2, 1) := by decide +kernel
theorem dX10_desk_45 : decode cX10_desk 45 = .ok (.iconst 4, 1) := by decide +kernel
theorem dX10_desk_46 : decode cX10_desk 46 = .ok (.invokevirtual 84, 3) := by decide +kernel
theorem dX10_desk_49 : decode cX10_desk 49 = .ok (.ifCond .eq 5, 3) := by decide +kernel
theorem dX10_desk_52 : decode cX10_desk 52 = .ok (.iconst (-1), 1) := by decide +kernel
theorem dX10_desk_53 : decode cX10_desk 53 = .ok (.ireturn, 1) := by decide +kernel
theorem dX10_desk_54 : decode cX10_desk 54 = .ok (.aload_n 0, 1) := by decide +kernel
theorem dX10_desk_55 : decode cX10_desk 55 = .ok (.getfield 23, 3) := by decide +kernel
theorem dX10_desk_58 : decode cX10_desk 58 = .ok (.astore_n 3, 1) := by decide +kernel
theorem dX10_desk_59 : decode cX10_desk 59 = .ok (.aload_n 0, 1) := by decide +kernel
theorem dX10_desk_60 : decode cX10_desk 60 = .ok (.aload_n 0, 1) := by decide +kernel
theorem dX10_desk_61 : decode cX10_desk 61 = .ok (.getfield 27, 3) := by decide +kernel
theorem dX10_desk_64 : decode cX10_desk 64 = .ok (.putfield 23, 3) := by decide +kernel
theorem dX10_desk_67 : decode cX10_desk 67 = .ok (.aload_n 0, 1) := by decide +kernel
theorem dX10_desk_68 : decode cX10_desk 68 = .ok (.aload_n 3, 1) := by decide +kernel
theorem dX10_desk_69 : decode cX10_desk 69 = .ok (.putfield 27, 3) := by decide +kernel
theorem dX10_desk_72 : decode cX10_desk 72 = .ok (.aload_n 0, 1) := by decide +kernel
theorem dX10_desk_73 : decode cX10_desk 73 = .ok (.getfield 54, 3) := by decide +kernel
theorem dX10_desk_76 : decode cX10_desk 76 = .ok (.aload_n 0, 1) := by decide +kernel
theorem dX10_desk_77 : decode cX10_desk 77 = .ok (.getfield 23, 3) := by decide +kernel
theorem dX10_desk_80 : decode cX10_desk 80 = .ok (.invokevirtual 92, 3) := by decide +kernel
theorem dX10_desk_83 : decode cX10_desk 83 = .ok (.aload_n 0, 1) := by decide +kernel
theorem dX10_desk_84 : decode cX10_desk 84 = .ok (.getfield 61, 3) := by decide +kernel
theorem dX10_desk_87 : decode cX10_desk 87 = .ok (.invokevirtual 96, 3) := by decide +kernel
theorem dX10_desk_90 : decode cX10_desk 90 = .ok (.aload_n 0, 1) := by decide +kernel
theorem dX10_desk_91 : decode cX10_desk 91 = .ok (.getfield 68, 3) := by decide +kernel
theorem dX10_desk_94 : decode cX10_desk 94 = .ok (.invokevirtual 99, 3) := by decide +kernel
theorem dX10_desk_97 : decode cX10_desk 97 = .ok (.aload_n 0, 1) := by decide +kernel
theorem dX10_desk_98 : decode cX10_desk 98 = .ok (.getfield 23, 3) := by decide +kernel
theorem dX10_desk_101 : decode cX10_desk 101 = .ok (.iconst 0, 1) := by decide +kernel
theorem dX10_desk_102 : decode cX10_desk 102 = .ok (.invokevirtual 102, 3) := by decide +kernel
theorem dX10_desk_105 : decode cX10_desk 105 = .ok (.ireturn, 1) := by decide +kernel
theorem dX10_fault_0 : decode cX10_fault 0 = .ok (.aload_n 0, 1) := by decide +kernel
theorem dX10_fault_1 : decode cX10_fault 1 = .ok (.getfield 16, 3) := by decide +kernel
theorem dX10_fault_4 : decode cX10_fault 4 = .ok (.invokevirtual 106, 3) := by decide +kernel
theorem dX10_fault_7 : decode cX10_fault 7 = .ok (.ireturn, 1) := by decide +kernel
theorem dX10_where_0 : decode cX10_where 0 = .ok (.aload_n 0, 1) := by decide +kernel
theorem dX10_where_1 : decode cX10_where 1 = .ok (.getfield 9, 3) := by decide +kernel
theorem dX10_where_4 : decode cX10_where 4 = .ok (.iconst 4, 1) := by decide +kernel
theorem dX10_where_5 : decode cX10_where 5 = .ok (.if_icmp .ne 13, 3) := by decide +kernel
theorem dX10_where_8 : decode cX10_where 8 = .ok (.aload_n 0, 1) := by decide +kernel
theorem dX10_where_9 : decode cX10_where 9 = .ok (.getfield 16, 3) := by decide +kernel
theorem dX10_where_12 : decode cX10_where 12 = .ok (.invokevirtual 109, 3) := by decide +kernel
theorem dX10_where_15 : decode cX10_where 15 = .ok (.goto 4, 3) := by decide +kernel
theorem dX10_where_18 : decode cX10_where 18 = .ok (.iconst (-1), 1) := by decide +kernel
theorem dX10_where_19 : decode cX10_where 19 = .ok (.ireturn, 1) := by decide +kernel
theorem dX10_angles_0 : decode cX10_angles 0 = .ok (.bipush 40, 2) := by decide +kernel
theorem dX10_angles_2 : decode cX10_angles 2 = .ok (.ireturn, 1) := by decide +kernel
theorem dX10_angle_0 : decode cX10_angle 0 = .ok (.aload_n 0, 1) := by decide +kernel
theorem dX10_angle_1 : decode cX10_angle 1 = .ok (.iload_n 1, 1) := by decide +kernel
theorem dX10_angle_2 : decode cX10_angle 2 = .ok (.invokestatic 114, 3) := by decide +kernel
theorem dX10_angle_5 : decode cX10_angle 5 = .ok (.ifCond .eq 15, 3) := by decide +kernel
theorem dX10_angle_8 : decode cX10_angle 8 = .ok (.iload_n 2, 1) := by decide +kernel
theorem dX10_angle_9 : decode cX10_angle 9 = .ok (.iconst 2, 1) := by decide +kernel
theorem dX10_angle_10 : decode cX10_angle 10 = .ok (.invokestatic 118, 3) := by decide +kernel
theorem dX10_angle_13 : decode cX10_angle 13 = .ok (.ifCond .eq 7, 3) := by decide +kernel
theorem dX10_angle_16 : decode cX10_angle 16 = .ok (.iconst 1, 1) := by decide +kernel
theorem dX10_angle_17 : decode cX10_angle 17 = .ok (.goto 4, 3) := by decide +kernel
theorem dX10_angle_20 : decode cX10_angle 20 = .ok (.iconst 0, 1) := by decide +kernel
theorem dX10_angle_21 : decode cX10_angle 21 = .ok (.iconst 1, 1) := by decide +kernel
theorem dX10_angle_22 : decode cX10_angle 22 = .ok (.invokevirtual 84, 3) := by decide +kernel
theorem dX10_angle_25 : decode cX10_angle 25 = .ok (.ifCond .eq 6, 3) := by decide +kernel
theorem dX10_angle_28 : decode cX10_angle 28 = .ok (.ldc 122, 2) := by decide +kernel
theorem dX10_angle_30 : decode cX10_angle 30 = .ok (.ireturn, 1) := by decide +kernel
theorem dX10_angle_31 : decode cX10_angle 31 = .ok (.iload_n 2, 1) := by decide +kernel
theorem dX10_angle_32 : decode cX10_angle 32 = .ok (.ifCond .ne 10, 3) := by decide +kernel
theorem dX10_angle_35 : decode cX10_angle 35 = .ok (.iload_n 1, 1) := by decide +kernel
theorem dX10_angle_36 : decode cX10_angle 36 = .ok (.invokestatic 123, 3) := by decide +kernel
theorem dX10_angle_39 : decode cX10_angle 39 = .ok (.goto 7, 3) := by decide +kernel
theorem dX10_angle_42 : decode cX10_angle 42 = .ok (.iload_n 1, 1) := by decide +kernel
theorem dX10_angle_43 : decode cX10_angle 43 = .ok (.invokestatic 126, 3) := by decide +kernel
theorem dX10_angle_46 : decode cX10_angle 46 = .ok (.ireturn, 1) := by decide +kernel
theorem dX10_which_0 : decode cX10_which 0 = .ok (.iload_n 1, 1) := by decide +kernel
theorem dX10_which_1 : decode cX10_which 1 = .ok (.bipush (-5), 2) := by decide +kernel
theorem dX10_which_3 : decode cX10_which 3 = .ok (.if_icmp .lt 23, 3) := by decide +kernel
theorem dX10_which_6 : decode cX10_which 6 = .ok (.iload_n 1, 1) := by decide +kernel
theorem dX10_which_7 : decode cX10_which 7 = .ok (.iconst 5, 1) := by decide +kernel
theorem dX10_which_8 : decode cX10_which 8 = .ok (.if_icmp .gt 18, 3) := by decide +kernel
theorem dX10_which_11 : decode cX10_which 11 = .ok (.iload_n 2, 1) := by decide +kernel
theorem dX10_which_12 : decode cX10_which 12 = .ok (.bipush (-5), 2) := by decide +kernel
theorem dX10_which_14 : decode cX10_which 14 = .ok (.if_icmp .lt 12, 3) := by decide +kernel
theorem dX10_which_17 : decode cX10_which 17 = .ok (.iload_n 2, 1) := by decide +kernel
theorem dX10_which_18 : decode cX10_which 18 = .ok (.iconst 5, 1) := by decide +kernel
theorem dX10_which_19 : decode cX10_which 19 = .ok (.if_icmp .gt 7, 3) := by decide +kernel
theorem dX10_which_22 : decode cX10_which 22 = .ok (.iconst 1, 1) := by decide +kernel
theorem dX10_which_23 : decode cX10_which 23 = .ok (.goto 4, 3) := by decide +kernel
theorem dX10_which_26 : decode cX10_which 26 = .ok (.iconst 0, 1) := by decide +kernel
theorem dX10_which_27 : decode cX10_which 27 = .ok (.istore_n 3, 1) := by decide +kernel
theorem dX10_which_28 : decode cX10_which 28 = .ok (.aload_n 0, 1) := by decide +kernel
theorem dX10_which_29 : decode cX10_which 29 = .ok (.iload_n 3, 1) := by decide +kernel
theorem dX10_which_30 : decode cX10_which 30 = .ok (.ifCond .eq 15, 3) := by decide +kernel
theorem dX10_which_33 : decode cX10_which 33 = .ok (.iload_n 1, 1) := by decide +kernel
theorem dX10_which_34 : decode cX10_which 34 = .ok (.ifCond .ne 7, 3) := by decide +kernel
theorem dX10_which_37 : decode cX10_which 37 = .ok (.iload_n 2, 1) := by decide +kernel
theorem dX10_which_38 : decode cX10_which 38 = .ok (.ifCond .eq 7, 3) := by decide +kernel
theorem dX10_which_41 : decode cX10_which 41 = .ok (.iconst 1, 1) := by decide +kernel
theorem dX10_which_42 : decode cX10_which 42 = .ok (.goto 4, 3) := by decide +kernel
theorem dX10_which_45 : decode cX10_which 45 = .ok (.iconst 0, 1) := by decide +kernel
theorem dX10_which_46 : decode cX10_which 46 = .ok (.iconst 2, 1) := by decide +kernel
theorem dX10_which_47 : decode cX10_which 47 = .ok (.invokevirtual 84, 3) := by decide +kernel
theorem dX10_which_50 : decode cX10_which 50 = .ok (.ifCond .eq 5, 3) := by decide +kernel
theorem dX10_which_53 : decode cX10_which 53 = .ok (.iconst (-1), 1) := by decide +kernel
theorem dX10_which_54 : decode cX10_which 54 = .ok (.ireturn, 1) := by decide +kernel
theorem dX10_which_55 : decode cX10_which 55 = .ok (.iload_n 1, 1) := by decide +kernel
theorem dX10_which_56 : decode cX10_which 56 = .ok (.iload_n 2, 1) := by decide +kernel
theorem dX10_which_57 : decode cX10_which 57 = .ok (.invokestatic 129, 3) := by decide +kernel
theorem dX10_which_60 : decode cX10_which 60 = .ok (.ireturn, 1) := by decide +kernel
theorem dX10_bar_0 : decode cX10_bar 0 = .ok (.aload_n 0, 1) := by decide +kernel
theorem dX10_bar_1 : decode cX10_bar 1 = .ok (.aload_n 0, 1) := by decide +kernel
theorem dX10_bar_2 : decode cX10_bar 2 = .ok (.iload_n 1, 1) := by decide +kernel
theorem dX10_bar_3 : decode cX10_bar 3 = .ok (.invokevirtual 133, 3) := by decide +kernel
theorem dX10_bar_6 : decode cX10_bar 6 = .ok (.ifCond .eq 15, 3) := by decide +kernel
theorem dX10_bar_9 : decode cX10_bar 9 = .ok (.iload_n 2, 1) := by decide +kernel
theorem dX10_bar_10 : decode cX10_bar 10 = .ok (.iconst 4, 1) := by decide +kernel
theorem dX10_bar_11 : decode cX10_bar 11 = .ok (.invokestatic 118, 3) := by decide +kernel
theorem dX10_bar_14 : decode cX10_bar 14 = .ok (.ifCond .eq 7, 3) := by decide +kernel
theorem dX10_bar_17 : decode cX10_bar 17 = .ok (.iconst 1, 1) := by decide +kernel
theorem dX10_bar_18 : decode cX10_bar 18 = .ok (.goto 4, 3) := by decide +kernel
theorem dX10_bar_21 : decode cX10_bar 21 = .ok (.iconst 0, 1) := by decide +kernel
theorem dX10_bar_22 : decode cX10_bar 22 = .ok (.iconst 1, 1) := by decide +kernel
theorem dX10_bar_23 : decode cX10_bar 23 = .ok (.invokevirtual 84, 3) := by decide +kernel
theorem dX10_bar_26 : decode cX10_bar 26 = .ok (.ifCond .eq 5, 3) := by decide +kernel
theorem dX10_bar_29 : decode cX10_bar 29 = .ok (.iconst (-1), 1) := by decide +kernel
theorem dX10_bar_30 : decode cX10_bar 30 = .ok (.ireturn, 1) := by decide +kernel
theorem dX10_bar_31 : decode cX10_bar 31 = .ok (.aload_n 0, 1) := by decide +kernel
theorem dX10_bar_32 : decode cX10_bar 32 = .ok (.getfield 23, 3) := by decide +kernel
theorem dX10_bar_35 : decode cX10_bar 35 = .ok (.iconst 0, 1) := by decide +kernel
theorem dX10_bar_36 : decode cX10_bar 36 = .ok (.iload_n 1, 1) := by decide +kernel
theorem dX10_bar_37 : decode cX10_bar 37 = .ok (.iload_n 2, 1) := by decide +kernel
theorem dX10_bar_38 : decode cX10_bar 38 = .ok (.invokevirtual 136, 3) := by decide +kernel
theorem dX10_bar_41 : decode cX10_bar 41 = .ok (.ireturn, 1) := by decide +kernel
theorem dX10_sums_0 : decode cX10_sums 0 = .ok (.aload_n 0, 1) := by decide +kernel
theorem dX10_sums_1 : decode cX10_sums 1 = .ok (.aload_n 0, 1) := by decide +kernel
theorem dX10_sums_2 : decode cX10_sums 2 = .ok (.iload_n 1, 1) := by decide +kernel
theorem dX10_sums_3 : decode cX10_sums 3 = .ok (.invokevirtual 133, 3) := by decide +kernel
theorem dX10_sums_6 : decode cX10_sums 6 = .ok (.iconst 1, 1) := by decide +kernel
theorem dX10_sums_7 : decode cX10_sums 7 = .ok (.invokevirtual 84, 3) := by decide +kernel
theorem dX10_sums_10 : decode cX10_sums 10 = .ok (.ifCond .eq 6, 3) := by decide +kernel
theorem dX10_sums_13 : decode cX10_sums 13 = .ok (.ldc 122, 2) := by decide +kernel
theorem dX10_sums_15 : decode cX10_sums 15 = .ok (.ireturn, 1) := by decide +kernel
theorem dX10_sums_16 : decode cX10_sums 16 = .ok (.aload_n 0, 1) := by decide +kernel
theorem dX10_sums_17 : decode cX10_sums 17 = .ok (.iload_n 1, 1) := by decide +kernel
theorem dX10_sums_18 : decode cX10_sums 18 = .ok (.invokevirtual 140, 3) := by decide +kernel
theorem dX10_sums_21 : decode cX10_sums 21 = .ok (.invokevirtual 144, 3) := by decide +kernel
theorem dX10_sums_24 : decode cX10_sums 24 = .ok (.ireturn, 1) := by decide +kernel
theorem dX10_kind_0 : decode cX10_kind 0 = .ok (.aload_n 0, 1) := by decide +kernel
theorem dX10_kind_1 : decode cX10_kind 1 = .ok (.aload_n 0, 1) := by decide +kernel
theorem dX10_kind_2 : decode cX10_kind 2 = .ok (.iload_n 1, 1) := by decide +kernel
theorem dX10_kind_3 : decode cX10_kind 3 = .ok (.invokevirtual 133, 3) := by decide +kernel
theorem dX10_kind_6 : decode cX10_kind 6 = .ok (.iconst 1, 1) := by decide +kernel
theorem dX10_kind_7 : decode cX10_kind 7 = .ok (.invokevirtual 84, 3) := by decide +kernel
theorem dX10_kind_10 : decode cX10_kind 10 = .ok (.ifCond .eq 5, 3) := by decide +kernel
theorem dX10_kind_13 : decode cX10_kind 13 = .ok (.iconst (-1), 1) := by decide +kernel
theorem dX10_kind_14 : decode cX10_kind 14 = .ok (.ireturn, 1) := by decide +kernel
theorem dX10_kind_15 : decode cX10_kind 15 = .ok (.aload_n 0, 1) := by decide +kernel
theorem dX10_kind_16 : decode cX10_kind 16 = .ok (.iload_n 1, 1) := by decide +kernel
theorem dX10_kind_17 : decode cX10_kind 17 = .ok (.invokevirtual 140, 3) := by decide +kernel
theorem dX10_kind_20 : decode cX10_kind 20 = .ok (.invokevirtual 147, 3) := by decide +kernel
theorem dX10_kind_23 : decode cX10_kind 23 = .ok (.ireturn, 1) := by decide +kernel
theorem dX10_round_0 : decode cX10_round 0 = .ok (.aload_n 0, 1) := by decide +kernel
theorem dX10_round_1 : decode cX10_round 1 = .ok (.aload_n 0, 1) := by decide +kernel
theorem dX10_round_2 : decode cX10_round 2 = .ok (.iload_n 1, 1) := by decide +kernel
theorem dX10_round_3 : decode cX10_round 3 = .ok (.invokevirtual 133, 3) := by decide +kernel
theorem dX10_round_6 : decode cX10_round 6 = .ok (.ifCond .eq 15, 3) := by decide +kernel
theorem dX10_round_9 : decode cX10_round 9 = .ok (.iload_n 2, 1) := by decide +kernel
theorem dX10_round_10 : decode cX10_round 10 = .ok (.iconst 4, 1) := by decide +kernel
theorem dX10_round_11 : decode cX10_round 11 = .ok (.invokestatic 118, 3) := by decide +kernel
theorem dX10_round_14 : decode cX10_round 14 = .ok (.ifCond .eq 7, 3) := by decide +kernel
theorem dX10_round_17 : decode cX10_round 17 = .ok (.iconst 1, 1) := by decide +kernel
theorem dX10_round_18 : decode cX10_round 18 = .ok (.goto 4, 3) := by decide +kernel
theorem dX10_round_21 : decode cX10_round 21 = .ok (.iconst 0, 1) := by decide +kernel
theorem dX10_round_22 : decode cX10_round 22 = .ok (.iconst 1, 1) := by decide +kernel
theorem dX10_round_23 : decode cX10_round 23 = .ok (.invokevirtual 84, 3) := by decide +kernel
theorem dX10_round_26 : decode cX10_round 26 = .ok (.ifCond .eq 5, 3) := by decide +kernel
theorem dX10_round_29 : decode cX10_round 29 = .ok (.iconst (-1), 1) := by decide +kernel
theorem dX10_round_30 : decode cX10_round 30 = .ok (.ireturn, 1) := by decide +kernel
theorem dX10_round_31 : decode cX10_round 31 = .ok (.aload_n 0, 1) := by decide +kernel
theorem dX10_round_32 : decode cX10_round 32 = .ok (.iload_n 1, 1) := by decide +kernel
theorem dX10_round_33 : decode cX10_round 33 = .ok (.invokevirtual 140, 3) := by decide +kernel
theorem dX10_round_36 : decode cX10_round 36 = .ok (.iload_n 2, 1) := by decide +kernel
theorem dX10_round_37 : decode cX10_round 37 = .ok (.invokevirtual 150, 3) := by decide +kernel
theorem dX10_round_40 : decode cX10_round 40 = .ok (.ifCond .eq 7, 3) := by decide +kernel
theorem dX10_round_43 : decode cX10_round 43 = .ok (.iconst 1, 1) := by decide +kernel
theorem dX10_round_44 : decode cX10_round 44 = .ok (.goto 4, 3) := by decide +kernel
theorem dX10_round_47 : decode cX10_round 47 = .ok (.iconst 0, 1) := by decide +kernel
theorem dX10_round_48 : decode cX10_round 48 = .ok (.ireturn, 1) := by decide +kernel
theorem dX10_least_0 : decode cX10_least 0 = .ok (.aload_n 0, 1) := by decide +kernel
theorem dX10_least_1 : decode cX10_least 1 = .ok (.iload_n 1, 1) := by decide +kernel
theorem dX10_least_2 : decode cX10_least 2 = .ok (.iconst 0, 1) := by decide +kernel
theorem dX10_least_3 : decode cX10_least 3 = .ok (.iload_n 2, 1) := by decide +kernel
theorem dX10_least_4 : decode cX10_least 4 = .ok (.invokevirtual 153, 3) := by decide +kernel
theorem dX10_least_7 : decode cX10_least 7 = .ok (.lreturn, 1) := by decide +kernel
theorem dX10_most_0 : decode cX10_most 0 = .ok (.aload_n 0, 1) := by decide +kernel
theorem dX10_most_1 : decode cX10_most 1 = .ok (.iload_n 1, 1) := by decide +kernel
theorem dX10_most_2 : decode cX10_most 2 = .ok (.iconst 1, 1) := by decide +kernel
theorem dX10_most_3 : decode cX10_most 3 = .ok (.iload_n 2, 1) := by decide +kernel
theorem dX10_most_4 : decode cX10_most 4 = .ok (.invokevirtual 153, 3) := by decide +kernel
theorem dX10_most_7 : decode cX10_most 7 = .ok (.lreturn, 1) := by decide +kernel
theorem dX10_ends_0 : decode cX10_ends 0 = .ok (.aload_n 0, 1) := by decide +kernel
theorem dX10_ends_1 : decode cX10_ends 1 = .ok (.aload_n 0, 1) := by decide +kernel
theorem dX10_ends_2 : decode cX10_ends 2 = .ok (.iload_n 1, 1) := by decide +kernel
theorem dX10_ends_3 : decode cX10_ends 3 = .ok (.invokevirtual 133, 3) := by decide +kernel
theorem dX10_ends_6 : decode cX10_ends 6 = .ok (.iconst 1, 1) := by decide +kernel
theorem dX10_ends_7 : decode cX10_ends 7 = .ok (.invokevirtual 84, 3) := by decide +kernel
theorem dX10_ends_10 : decode cX10_ends 10 = .ok (.ifCond .eq 5, 3) := by decide +kernel
theorem dX10_ends_13 : decode cX10_ends 13 = .ok (.iconst (-1), 1) := by decide +kernel
theorem dX10_ends_14 : decode cX10_ends 14 = .ok (.ireturn, 1) := by decide +kernel
theorem dX10_ends_15 : decode cX10_ends 15 = .ok (.aload_n 0, 1) := by decide +kernel
theorem dX10_ends_16 : decode cX10_ends 16 = .ok (.iload_n 1, 1) := by decide +kernel
theorem dX10_ends_17 : decode cX10_ends 17 = .ok (.invokevirtual 140, 3) := by decide +kernel
theorem dX10_ends_20 : decode cX10_ends 20 = .ok (.invokevirtual 157, 3) := by decide +kernel
theorem dX10_ends_23 : decode cX10_ends 23 = .ok (.ireturn, 1) := by decide +kernel
theorem dX10_arcs_0 : decode cX10_arcs 0 = .ok (.aload_n 0, 1) := by decide +kernel
theorem dX10_arcs_1 : decode cX10_arcs 1 = .ok (.aload_n 0, 1) := by decide +kernel
theorem dX10_arcs_2 : decode cX10_arcs 2 = .ok (.iload_n 1, 1) := by decide +kernel
theorem dX10_arcs_3 : decode cX10_arcs 3 = .ok (.invokevirtual 133, 3) := by decide +kernel
theorem dX10_arcs_6 : decode cX10_arcs 6 = .ok (.iconst 1, 1) := by decide +kernel
theorem dX10_arcs_7 : decode cX10_arcs 7 = .ok (.invokevirtual 84, 3) := by decide +kernel
theorem dX10_arcs_10 : decode cX10_arcs 10 = .ok (.ifCond .eq 5, 3) := by decide +kernel
theorem dX10_arcs_13 : decode cX10_arcs 13 = .ok (.iconst (-1), 1) := by decide +kernel
theorem dX10_arcs_14 : decode cX10_arcs 14 = .ok (.ireturn, 1) := by decide +kernel
theorem dX10_arcs_15 : decode cX10_arcs 15 = .ok (.aload_n 0, 1) := by decide +kernel
theorem dX10_arcs_16 : decode cX10_arcs 16 = .ok (.iload_n 1, 1) := by decide +kernel
theorem dX10_arcs_17 : decode cX10_arcs 17 = .ok (.invokevirtual 140, 3) := by decide +kernel
theorem dX10_arcs_20 : decode cX10_arcs 20 = .ok (.invokevirtual 160, 3) := by decide +kernel
theorem dX10_arcs_23 : decode cX10_arcs 23 = .ok (.ireturn, 1) := by decide +kernel
theorem dX10_circuits_0 : decode cX10_circuits 0 = .ok (.aload_n 0, 1) := by decide +kernel
theorem dX10_circuits_1 : decode cX10_circuits 1 = .ok (.aload_n 0, 1) := by decide +kernel
theorem dX10_circuits_2 : decode cX10_circuits 2 = .ok (.iload_n 1, 1) := by decide +kernel
theorem dX10_circuits_3 : decode cX10_circuits 3 = .ok (.invokevirtual 133, 3) := by decide +kernel
theorem dX10_circuits_6 : decode cX10_circuits 6 = .ok (.iconst 1, 1) := by decide +kernel
theorem dX10_circuits_7 : decode cX10_circuits 7 = .ok (.invokevirtual 84, 3) := by decide +kernel
theorem dX10_circuits_10 : decode cX10_circuits 10 = .ok (.ifCond .eq 5, 3) := by decide +kernel
theorem dX10_circuits_13 : decode cX10_circuits 13 = .ok (.iconst (-1), 1) := by decide +kernel
theorem dX10_circuits_14 : decode cX10_circuits 14 = .ok (.ireturn, 1) := by decide +kernel
theorem dX10_circuits_15 : decode cX10_circuits 15 = .ok (.aload_n 0, 1) := by decide +kernel
theorem dX10_circuits_16 : decode cX10_circuits 16 = .ok (.iload_n 1, 1) := by decide +kernel
theorem dX10_circuits_17 : decode cX10_circuits 17 = .ok (.invokevirtual 140, 3) := by decide +kernel
theorem dX10_circuits_20 : decode cX10_circuits 20 = .ok (.invokevirtual 163, 3) := by decide +kernel
theorem dX10_circuits_23 : decode cX10_circuits 23 = .ok (.ireturn, 1) := by decide +kernel
theorem dX10_lawful_0 : decode cX10_lawful 0 = .ok (.aload_n 0, 1) := by decide +kernel
theorem dX10_lawful_1 : decode cX10_lawful 1 = .ok (.aload_n 0, 1) := by decide +kernel
theorem dX10_lawful_2 : decode cX10_lawful 2 = .ok (.iload_n 1, 1) := by decide +kernel
theorem dX10_lawful_3 : decode cX10_lawful 3 = .ok (.invokevirtual 133, 3) := by decide +kernel
theorem dX10_lawful_6 : decode cX10_lawful 6 = .ok (.ifCond .eq 14, 3) := by decide +kernel
theorem dX10_lawful_9 : decode cX10_lawful 9 = .ok (.iload_n 2, 1) := by decide +kernel
theorem dX10_lawful_10 : decode cX10_lawful 10 = .ok (.invokestatic 114, 3) := by decide +kernel
theorem dX10_lawful_13 : decode cX10_lawful 13 = .ok (.ifCond .eq 7, 3) := by decide +kernel
theorem dX10_lawful_16 : decode cX10_lawful 16 = .ok (.iconst 1, 1) := by decide +kernel
theorem dX10_lawful_17 : decode cX10_lawful 17 = .ok (.goto 4, 3) := by decide +kernel
theorem dX10_lawful_20 : decode cX10_lawful 20 = .ok (.iconst 0, 1) := by decide +kernel
theorem dX10_lawful_21 : decode cX10_lawful 21 = .ok (.iconst 1, 1) := by decide +kernel
theorem dX10_lawful_22 : decode cX10_lawful 22 = .ok (.invokevirtual 84, 3) := by decide +kernel
theorem dX10_lawful_25 : decode cX10_lawful 25 = .ok (.ifCond .eq 5, 3) := by decide +kernel
theorem dX10_lawful_28 : decode cX10_lawful 28 = .ok (.iconst (-1), 1) := by decide +kernel
theorem dX10_lawful_29 : decode cX10_lawful 29 = .ok (.ireturn, 1) := by decide +kernel
theorem dX10_lawful_30 : decode cX10_lawful 30 = .ok (.aload_n 0, 1) := by decide +kernel
theorem dX10_lawful_31 : decode cX10_lawful 31 = .ok (.iload_n 1, 1) := by decide +kernel
theorem dX10_lawful_32 : decode cX10_lawful 32 = .ok (.iload_n 2, 1) := by decide +kernel
theorem dX10_lawful_33 : decode cX10_lawful 33 = .ok (.invokevirtual 166, 3) := by decide +kernel
theorem dX10_lawful_36 : decode cX10_lawful 36 = .ok (.invokevirtual 170, 3) := by decide +kernel
theorem dX10_lawful_39 : decode cX10_lawful 39 = .ok (.ireturn, 1) := by decide +kernel
theorem dX10_lawfuls_0 : decode cX10_lawfuls 0 = .ok (.aload_n 0, 1) := by decide +kernel
theorem dX10_lawfuls_1 : decode cX10_lawfuls 1 = .ok (.aload_n 0, 1) := by decide +kernel
theorem dX10_lawfuls_2 : decode cX10_lawfuls 2 = .ok (.iload_n 1, 1) := by decide +kernel
theorem dX10_lawfuls_3 : decode cX10_lawfuls 3 = .ok (.invokevirtual 133, 3) := by decide +kernel
theorem dX10_lawfuls_6 : decode cX10_lawfuls 6 = .ok (.iconst 1, 1) := by decide +kernel
theorem dX10_lawfuls_7 : decode cX10_lawfuls 7 = .ok (.invokevirtual 84, 3) := by decide +kernel
theorem dX10_lawfuls_10 : decode cX10_lawfuls 10 = .ok (.ifCond .eq 5, 3) := by decide +kernel
theorem dX10_lawfuls_13 : decode cX10_lawfuls 13 = .ok (.iconst (-1), 1) := by decide +kernel
theorem dX10_lawfuls_14 : decode cX10_lawfuls 14 = .ok (.ireturn, 1) := by decide +kernel
theorem dX10_lawfuls_15 : decode cX10_lawfuls 15 = .ok (.aload_n 0, 1) := by decide +kernel
theorem dX10_lawfuls_16 : decode cX10_lawfuls 16 = .ok (.iload_n 1, 1) := by decide +kernel
theorem dX10_lawfuls_17 : decode cX10_lawfuls 17 = .ok (.iconst 1, 1) := by decide +kernel
theorem dX10_lawfuls_18 : decode cX10_lawfuls 18 = .ok (.invokevirtual 173, 3) := by decide +kernel
theorem dX10_lawfuls_21 : decode cX10_lawfuls 21 = .ok (.ireturn, 1) := by decide +kernel
theorem dX10_deads_0 : decode cX10_deads 0 = .ok (.aload_n 0, 1) := by decide +kernel
theorem dX10_deads_1 : decode cX10_deads 1 = .ok (.aload_n 0, 1) := by decide +kernel
theorem dX10_deads_2 : decode cX10_deads 2 = .ok (.iload_n 1, 1) := by decide +kernel
theorem dX10_deads_3 : decode cX10_deads 3 = .ok (.invokevirtual 133, 3) := by decide +kernel
theorem dX10_deads_6 : decode cX10_deads 6 = .ok (.iconst 1, 1) := by decide +kernel
theorem dX10_deads_7 : decode cX10_deads 7 = .ok (.invokevirtual 84, 3) := by decide +kernel
theorem dX10_deads_10 : decode cX10_deads 10 = .ok (.ifCond .eq 5, 3) := by decide +kernel
theorem dX10_deads_13 : decode cX10_deads 13 = .ok (.iconst (-1), 1) := by decide +kernel
theorem dX10_deads_14 : decode cX10_deads 14 = .ok (.ireturn, 1) := by decide +kernel
theorem dX10_deads_15 : decode cX10_deads 15 = .ok (.aload_n 0, 1) := by decide +kernel
theorem dX10_deads_16 : decode cX10_deads 16 = .ok (.iload_n 1, 1) := by decide +kernel
theorem dX10_deads_17 : decode cX10_deads 17 = .ok (.iconst 2, 1) := by decide +kernel
theorem dX10_deads_18 : decode cX10_deads 18 = .ok (.invokevirtual 173, 3) := by decide +kernel
theorem dX10_deads_21 : decode cX10_deads 21 = .ok (.ireturn, 1) := by decide +kernel
theorem dX10_between_0 : decode cX10_between 0 = .ok (.aload_n 0, 1) := by decide +kernel
theorem dX10_between_1 : decode cX10_between 1 = .ok (.aload_n 0, 1) := by decide +kernel
theorem dX10_between_2 : decode cX10_between 2 = .ok (.iload_n 1, 1) := by decide +kernel
theorem dX10_between_3 : decode cX10_between 3 = .ok (.invokevirtual 133, 3) := by decide +kernel
theorem dX10_between_6 : decode cX10_between 6 = .ok (.ifCond .eq 14, 3) := by decide +kernel
theorem dX10_between_9 : decode cX10_between 9 = .ok (.iload_n 2, 1) := by decide +kernel
theorem dX10_between_10 : decode cX10_between 10 = .ok (.invokestatic 114, 3) := by decide +kernel
theorem dX10_between_13 : decode cX10_between 13 = .ok (.ifCond .eq 7, 3) := by decide +kernel
theorem dX10_between_16 : decode cX10_between 16 = .ok (.iconst 1, 1) := by decide +kernel
theorem dX10_between_17 : decode cX10_between 17 = .ok (.goto 4, 3) := by decide +kernel
theorem dX10_between_20 : decode cX10_between 20 = .ok (.iconst 0, 1) := by decide +kernel
theorem dX10_between_21 : decode cX10_between 21 = .ok (.iconst 1, 1) := by decide +kernel
theorem dX10_between_22 : decode cX10_between 22 = .ok (.invokevirtual 84, 3) := by decide +kernel
theorem dX10_between_25 : decode cX10_between 25 = .ok (.ifCond .eq 5, 3) := by decide +kernel
theorem dX10_between_28 : decode cX10_between 28 = .ok (.iconst (-1), 1) := by decide +kernel
theorem dX10_between_29 : decode cX10_between 29 = .ok (.ireturn, 1) := by decide +kernel
theorem dX10_between_30 : decode cX10_between 30 = .ok (.aload_n 0, 1) := by decide +kernel
theorem dX10_between_31 : decode cX10_between 31 = .ok (.iload_n 1, 1) := by decide +kernel
theorem dX10_between_32 : decode cX10_between 32 = .ok (.invokevirtual 140, 3) := by decide +kernel
theorem dX10_between_35 : decode cX10_between 35 = .ok (.iload_n 2, 1) := by decide +kernel
theorem dX10_between_36 : decode cX10_between 36 = .ok (.invokevirtual 176, 3) := by decide +kernel
theorem dX10_between_39 : decode cX10_between 39 = .ok (.ireturn, 1) := by decide +kernel
theorem dX10_span_0 : decode cX10_span 0 = .ok (.aload_n 0, 1) := by decide +kernel
theorem dX10_span_1 : decode cX10_span 1 = .ok (.aload_n 0, 1) := by decide +kernel
theorem dX10_span_2 : decode cX10_span 2 = .ok (.iload_n 1, 1) := by decide +kernel
theorem dX10_span_3 : decode cX10_span 3 = .ok (.invokevirtual 133, 3) := by decide +kernel
theorem dX10_span_6 : decode cX10_span 6 = .ok (.ifCond .eq 14, 3) := by decide +kernel
theorem dX10_span_9 : decode cX10_span 9 = .ok (.iload_n 2, 1) := by decide +kernel
theorem dX10_span_10 : decode cX10_span 10 = .ok (.invokestatic 114, 3) := by decide +kernel
theorem dX10_span_13 : decode cX10_span 13 = .ok (.ifCond .eq 7, 3) := by decide +kernel
theorem dX10_span_16 : decode cX10_span 16 = .ok (.iconst 1, 1) := by decide +kernel
theorem dX10_span_17 : decode cX10_span 17 = .ok (.goto 4, 3) := by decide +kernel
theorem dX10_span_20 : decode cX10_span 20 = .ok (.iconst 0, 1) := by decide +kernel
theorem dX10_span_21 : decode cX10_span 21 = .ok (.iconst 1, 1) := by decide +kernel
theorem dX10_span_22 : decode cX10_span 22 = .ok (.invokevirtual 84, 3) := by decide +kernel
theorem dX10_span_25 : decode cX10_span 25 = .ok (.ifCond .eq 7, 3) := by decide +kernel
theorem dX10_span_28 : decode cX10_span 28 = .ok (.ldc2_w 179, 3) := by decide +kernel
theorem dX10_span_31 : decode cX10_span 31 = .ok (.lreturn, 1) := by decide +kernel
theorem dX10_span_32 : decode cX10_span 32 = .ok (.aload_n 0, 1) := by decide +kernel
theorem dX10_span_33 : decode cX10_span 33 = .ok (.iload_n 1, 1) := by decide +kernel
theorem dX10_span_34 : decode cX10_span 34 = .ok (.iload_n 2, 1) := by decide +kernel
theorem dX10_span_35 : decode cX10_span 35 = .ok (.invokevirtual 166, 3) := by decide +kernel
theorem dX10_span_38 : decode cX10_span 38 = .ok (.astore 4, 2) := by decide +kernel
theorem dX10_span_40 : decode cX10_span 40 = .ok (.aload 4, 2) := by decide +kernel
theorem dX10_span_42 : decode cX10_span 42 = .ok (.getfield 181, 3) := by decide +kernel
theorem dX10_span_45 : decode cX10_span 45 = .ok (.aload 4, 2) := by decide +kernel
theorem dX10_span_47 : decode cX10_span 47 = .ok (.getfield 185, 3) := by decide +kernel
theorem dX10_span_50 : decode cX10_span 50 = .ok (.iload_n 3, 1) := by decide +kernel
theorem dX10_span_51 : decode cX10_span 51 = .ok (.invokestatic 188, 3) := by decide +kernel
theorem dX10_span_54 : decode cX10_span 54 = .ok (.lreturn, 1) := by decide +kernel
theorem dX10_under_0 : decode cX10_under 0 = .ok (.aload_n 0, 1) := by decide +kernel
theorem dX10_under_1 : decode cX10_under 1 = .ok (.aload_n 0, 1) := by decide +kernel
theorem dX10_under_2 : decode cX10_under 2 = .ok (.iload_n 1, 1) := by decide +kernel
theorem dX10_under_3 : decode cX10_under 3 = .ok (.invokevirtual 133, 3) := by decide +kernel
theorem dX10_under_6 : decode cX10_under 6 = .ok (.ifCond .eq 14, 3) := by decide +kernel
theorem dX10_under_9 : decode cX10_under 9 = .ok (.iload_n 2, 1) := by decide +kernel
theorem dX10_under_10 : decode cX10_under 10 = .ok (.invokestatic 114, 3) := by decide +kernel
theorem dX10_under_13 : decode cX10_under 13 = .ok (.ifCond .eq 7, 3) := by decide +kernel
theorem dX10_under_16 : decode cX10_under 16 = .ok (.iconst 1, 1) := by decide +kernel
theorem dX10_under_17 : decode cX10_under 17 = .ok (.goto 4, 3) := by decide +kernel
theorem dX10_under_20 : decode cX10_under 20 = .ok (.iconst 0, 1) := by decide +kernel
theorem dX10_under_21 : decode cX10_under 21 = .ok (.iconst 1, 1) := by decide +kernel
theorem dX10_under_22 : decode cX10_under 22 = .ok (.invokevirtual 84, 3) := by decide +kernel
theorem dX10_under_25 : decode cX10_under 25 = .ok (.ifCond .eq 7, 3) := by decide +kernel
theorem dX10_under_28 : decode cX10_under 28 = .ok (.ldc2_w 194, 3) := by decide +kernel
theorem dX10_under_31 : decode cX10_under 31 = .ok (.lreturn, 1) := by decide +kernel
theorem dX10_under_32 : decode cX10_under 32 = .ok (.aload_n 0, 1) := by decide +kernel
theorem dX10_under_33 : decode cX10_under 33 = .ok (.iload_n 1, 1) := by decide +kernel
theorem dX10_under_34 : decode cX10_under 34 = .ok (.iload_n 2, 1) := by decide +kernel
theorem dX10_under_35 : decode cX10_under 35 = .ok (.invokevirtual 166, 3) := by decide +kernel
theorem dX10_under_38 : decode cX10_under 38 = .ok (.getfield 196, 3) := by decide +kernel
theorem dX10_under_41 : decode cX10_under 41 = .ok (.lreturn, 1) := by decide +kernel
theorem dX10_joint_0 : decode cX10_joint 0 = .ok (.aload_n 0, 1) := by decide +kernel
theorem dX10_joint_1 : decode cX10_joint 1 = .ok (.aload_n 0, 1) := by decide +kernel
theorem dX10_joint_2 : decode cX10_joint 2 = .ok (.iload_n 1, 1) := by decide +kernel
theorem dX10_joint_3 : decode cX10_joint 3 = .ok (.iload_n 2, 1) := by decide +kernel
theorem dX10_joint_4 : decode cX10_joint 4 = .ok (.iload_n 3, 1) := by decide +kernel
theorem dX10_joint_5 : decode cX10_joint 5 = .ok (.invokevirtual 199, 3) := by decide +kernel
theorem dX10_joint_8 : decode cX10_joint 8 = .ok (.ifCond .eq 16, 3) := by decide +kernel
theorem dX10_joint_11 : decode cX10_joint 11 = .ok (.iload 4, 2) := by decide +kernel
theorem dX10_joint_13 : decode cX10_joint 13 = .ok (.iconst 2, 1) := by decide +kernel
theorem dX10_joint_14 : decode cX10_joint 14 = .ok (.invokestatic 118, 3) := by decide +kernel
theorem dX10_joint_17 : decode cX10_joint 17 = .ok (.ifCond .eq 7, 3) := by decide +kernel
theorem dX10_joint_20 : decode cX10_joint 20 = .ok (.iconst 1, 1) := by decide +kernel
theorem dX10_joint_21 : decode cX10_joint 21 = .ok (.goto 4, 3) := by decide +kernel
theorem dX10_joint_24 : decode cX10_joint 24 = .ok (.iconst 0, 1) := by decide +kernel
theorem dX10_joint_25 : decode cX10_joint 25 = .ok (.iconst 1, 1) := by decide +kernel
theorem dX10_joint_26 : decode cX10_joint 26 = .ok (.invokevirtual 84, 3) := by decide +kernel
theorem dX10_joint_29 : decode cX10_joint 29 = .ok (.ifCond .eq 6, 3) := by decide +kernel
theorem dX10_joint_32 : decode cX10_joint 32 = .ok (.ldc 122, 2) := by decide +kernel
theorem dX10_joint_34 : decode cX10_joint 34 = .ok (.ireturn, 1) := by decide +kernel
theorem dX10_joint_35 : decode cX10_joint 35 = .ok (.aload_n 0, 1) := by decide +kernel
theorem dX10_joint_36 : decode cX10_joint 36 = .ok (.aload_n 0, 1) := by decide +kernel
theorem dX10_joint_37 : decode cX10_joint 37 = .ok (.iload_n 1, 1) := by decide +kernel
theorem dX10_joint_38 : decode cX10_joint 38 = .ok (.iload_n 2, 1) := by decide +kernel
theorem dX10_joint_39 : decode cX10_joint 39 = .ok (.invokevirtual 166, 3) := by decide +kernel
theorem dX10_joint_42 : decode cX10_joint 42 = .ok (.invokevirtual 203, 3) := by decide +kernel
theorem dX10_joint_45 : decode cX10_joint 45 = .ok (.iconst 5, 1) := by decide +kernel
theorem dX10_joint_46 : decode cX10_joint 46 = .ok (.invokevirtual 84, 3) := by decide +kernel
theorem dX10_joint_49 : decode cX10_joint 49 = .ok (.ifCond .eq 6, 3) := by decide +kernel
theorem dX10_joint_52 : decode cX10_joint 52 = .ok (.ldc 122, 2) := by decide +kernel
theorem dX10_joint_54 : decode cX10_joint 54 = .ok (.ireturn, 1) := by decide +kernel
theorem dX10_joint_55 : decode cX10_joint 55 = .ok (.aload_n 0, 1) := by decide +kernel
theorem dX10_joint_56 : decode cX10_joint 56 = .ok (.getfield 40, 3) := by decide +kernel
theorem dX10_joint_59 : decode cX10_joint 59 = .ok (.bipush 10, 2) := by decide +kernel
theorem dX10_joint_61 : decode cX10_joint 61 = .ok (.iconst 0, 1) := by decide +kernel
theorem dX10_joint_62 : decode cX10_joint 62 = .ok (.iload_n 3, 1) := by decide +kernel
theorem dX10_joint_63 : decode cX10_joint 63 = .ok (.invokevirtual 206, 3) := by decide +kernel
theorem dX10_joint_66 : decode cX10_joint 66 = .ok (.iload 4, 2) := by decide +kernel
theorem dX10_joint_68 : decode cX10_joint 68 = .ok (.ifCond .ne 13, 3) := by decide +kernel
theorem dX10_joint_71 : decode cX10_joint 71 = .ok (.aload_n 0, 1) := by decide +kernel
theorem dX10_joint_72 : decode cX10_joint 72 = .ok (.getfield 40, 3) := by decide +kernel
theorem dX10_joint_75 : decode cX10_joint 75 = .ok (.invokevirtual 210, 3) := by decide +kernel
theorem dX10_joint_78 : decode cX10_joint 78 = .ok (.goto 10, 3) := by decide +kernel
theorem dX10_joint_81 : decode cX10_joint 81 = .ok (.aload_n 0, 1) := by decide +kernel
theorem dX10_joint_82 : decode cX10_joint 82 = .ok (.getfield 40, 3) := by decide +kernel
theorem dX10_joint_85 : decode cX10_joint 85 = .ok (.invokevirtual 213, 3) := by decide +kernel
theorem dX10_joint_88 : decode cX10_joint 88 = .ok (.ireturn, 1) := by decide +kernel
theorem dX10_exact_0 : decode cX10_exact 0 = .ok (.aload_n 0, 1) := by decide +kernel
theorem dX10_exact_1 : decode cX10_exact 1 = .ok (.aload_n 0, 1) := by decide +kernel
theorem dX10_exact_2 : decode cX10_exact 2 = .ok (.iload_n 1, 1) := by decide +kernel
theorem dX10_exact_3 : decode cX10_exact 3 = .ok (.iload_n 2, 1) := by decide +kernel
theorem dX10_exact_4 : decode cX10_exact 4 = .ok (.iload_n 3, 1) := by decide +kernel
theorem dX10_exact_5 : decode cX10_exact 5 = .ok (.invokevirtual 199, 3) := by decide +kernel
theorem dX10_exact_8 : decode cX10_exact 8 = .ok (.ifCond .eq 17, 3) := by decide +kernel
theorem dX10_exact_11 : decode cX10_exact 11 = .ok (.iload 4, 2) := by decide +kernel
theorem dX10_exact_13 : decode cX10_exact 13 = .ok (.bipush 6, 2) := by decide +kernel
theorem dX10_exact_15 : decode cX10_exact 15 = .ok (.invokestatic 118, 3) := by decide +kernel
theorem dX10_exact_18 : decode cX10_exact 18 = .ok (.ifCond .eq 7, 3) := by decide +kernel
theorem dX10_exact_21 : decode cX10_exact 21 = .ok (.iconst 1, 1) := by decide +kernel
theorem dX10_exact_22 : decode cX10_exact 22 = .ok (.goto 4, 3) := by decide +kernel
theorem dX10_exact_25 : decode cX10_exact 25 = .ok (.iconst 0, 1) := by decide +kernel
theorem dX10_exact_26 : decode cX10_exact 26 = .ok (.iconst 1, 1) := by decide +kernel
theorem dX10_exact_27 : decode cX10_exact 27 = .ok (.invokevirtual 84, 3) := by decide +kernel
theorem dX10_exact_30 : decode cX10_exact 30 = .ok (.ifCond .eq 7, 3) := by decide +kernel
theorem dX10_exact_33 : decode cX10_exact 33 = .ok (.ldc2_w 194, 3) := by decide +kernel
theorem dX10_exact_36 : decode cX10_exact 36 = .ok (.lreturn, 1) := by decide +kernel
theorem dX10_exact_37 : decode cX10_exact 37 = .ok (.aload_n 0, 1) := by decide +kernel
theorem dX10_exact_38 : decode cX10_exact 38 = .ok (.aload_n 0, 1) := by decide +kernel
theorem dX10_exact_39 : decode cX10_exact 39 = .ok (.iload_n 1, 1) := by decide +kernel
theorem dX10_exact_40 : decode cX10_exact 40 = .ok (.iload_n 2, 1) := by decide +kernel
theorem dX10_exact_41 : decode cX10_exact 41 = .ok (.invokevirtual 166, 3) := by decide +kernel
theorem dX10_exact_44 : decode cX10_exact 44 = .ok (.invokevirtual 203, 3) := by decide +kernel
theorem dX10_exact_47 : decode cX10_exact 47 = .ok (.iconst 5, 1) := by decide +kernel
theorem dX10_exact_48 : decode cX10_exact 48 = .ok (.invokevirtual 84, 3) := by decide +kernel
theorem dX10_exact_51 : decode cX10_exact 51 = .ok (.ifCond .eq 7, 3) := by decide +kernel
theorem dX10_exact_54 : decode cX10_exact 54 = .ok (.ldc2_w 194, 3) := by decide +kernel
theorem dX10_exact_57 : decode cX10_exact 57 = .ok (.lreturn, 1) := by decide +kernel
theorem dX10_exact_58 : decode cX10_exact 58 = .ok (.iload 4, 2) := by decide +kernel
theorem dX10_exact_60 : decode cX10_exact 60 = .ok (.iconst 3, 1) := by decide +kernel
theorem dX10_exact_61 : decode cX10_exact 61 = .ok (.if_icmp .ge 16, 3) := by decide +kernel
theorem dX10_exact_64 : decode cX10_exact 64 = .ok (.aload_n 0, 1) := by decide +kernel
theorem dX10_exact_65 : decode cX10_exact 65 = .ok (.getfield 40, 3) := by decide +kernel
theorem dX10_exact_68 : decode cX10_exact 68 = .ok (.iload_n 3, 1) := by decide +kernel
theorem dX10_exact_69 : decode cX10_exact 69 = .ok (.iload 4, 2) := by decide +kernel
theorem dX10_exact_71 : decode cX10_exact 71 = .ok (.invokevirtual 216, 3) := by decide +kernel
theorem dX10_exact_74 : decode cX10_exact 74 = .ok (.goto 15, 3) := by decide +kernel
theorem dX10_exact_77 : decode cX10_exact 77 = .ok (.aload_n 0, 1) := by decide +kernel
theorem dX10_exact_78 : decode cX10_exact 78 = .ok (.getfield 40, 3) := by decide +kernel
theorem dX10_exact_81 : decode cX10_exact 81 = .ok (.iload_n 3, 1) := by decide +kernel
theorem dX10_exact_82 : decode cX10_exact 82 = .ok (.iload 4, 2) := by decide +kernel
theorem dX10_exact_84 : decode cX10_exact 84 = .ok (.iconst 3, 1) := by decide +kernel
theorem dX10_exact_85 : decode cX10_exact 85 = .ok (.isub, 1) := by decide +kernel
theorem dX10_exact_86 : decode cX10_exact 86 = .ok (.invokevirtual 220, 3) := by decide +kernel
theorem dX10_exact_89 : decode cX10_exact 89 = .ok (.lreturn, 1) := by decide +kernel
theorem dX10_circuit_0 : decode cX10_circuit 0 = .ok (.aload_n 0, 1) := by decide +kernel
theorem dX10_circuit_1 : decode cX10_circuit 1 = .ok (.aload_n 0, 1) := by decide +kernel
theorem dX10_circuit_2 : decode cX10_circuit 2 = .ok (.iload_n 1, 1) := by decide +kernel
theorem dX10_circuit_3 : decode cX10_circuit 3 = .ok (.iload_n 2, 1) := by decide +kernel
theorem dX10_circuit_4 : decode cX10_circuit 4 = .ok (.iload_n 3, 1) := by decide +kernel
theorem dX10_circuit_5 : decode cX10_circuit 5 = .ok (.invokevirtual 199, 3) := by decide +kernel
theorem dX10_circuit_8 : decode cX10_circuit 8 = .ok (.iconst 1, 1) := by decide +kernel
theorem dX10_circuit_9 : decode cX10_circuit 9 = .ok (.invokevirtual 84, 3) := by decide +kernel
theorem dX10_circuit_12 : decode cX10_circuit 12 = .ok (.ifCond .eq 5, 3) := by decide +kernel
theorem dX10_circuit_15 : decode cX10_circuit 15 = .ok (.iconst (-1), 1) := by decide +kernel
theorem dX10_circuit_16 : decode cX10_circuit 16 = .ok (.ireturn, 1) := by decide +kernel
theorem dX10_circuit_17 : decode cX10_circuit 17 = .ok (.aload_n 0, 1) := by decide +kernel
theorem dX10_circuit_18 : decode cX10_circuit 18 = .ok (.aload_n 0, 1) := by decide +kernel
theorem dX10_circuit_19 : decode cX10_circuit 19 = .ok (.iload_n 1, 1) := by decide +kernel
theorem dX10_circuit_20 : decode cX10_circuit 20 = .ok (.iload_n 2, 1) := by decide +kernel
theorem dX10_circuit_21 : decode cX10_circuit 21 = .ok (.invokevirtual 166, 3) := by decide +kernel
theorem dX10_circuit_24 : decode cX10_circuit 24 = .ok (.invokevirtual 203, 3) := by decide +kernel
theorem dX10_circuit_27 : decode cX10_circuit 27 = .ok (.iconst 5, 1) := by decide +kernel
theorem dX10_circuit_28 : decode cX10_circuit 28 = .ok (.invokevirtual 84, 3) := by decide +kernel
theorem dX10_circuit_31 : decode cX10_circuit 31 = .ok (.ifCond .eq 5, 3) := by decide +kernel
theorem dX10_circuit_34 : decode cX10_circuit 34 = .ok (.iconst (-1), 1) := by decide +kernel
theorem dX10_circuit_35 : decode cX10_circuit 35 = .ok (.ireturn, 1) := by decide +kernel
theorem dX10_circuit_36 : decode cX10_circuit 36 = .ok (.aload_n 0, 1) := by decide +kernel
theorem dX10_circuit_37 : decode cX10_circuit 37 = .ok (.getfield 33, 3) := by decide +kernel
theorem dX10_circuit_40 : decode cX10_circuit 40 = .ok (.invokevirtual 223, 3) := by decide +kernel
theorem dX10_circuit_43 : decode cX10_circuit 43 = .ok (.ifCond .eq 5, 3) := by decide +kernel
theorem dX10_circuit_46 : decode cX10_circuit 46 = .ok (.iload_n 3, 1) := by decide +kernel
theorem dX10_circuit_47 : decode cX10_circuit 47 = .ok (.ireturn, 1) := by decide +kernel
theorem dX10_circuit_48 : decode cX10_circuit 48 = .ok (.aload_n 0, 1) := by decide +kernel
theorem dX10_circuit_49 : decode cX10_circuit 49 = .ok (.getfield 33, 3) := by decide +kernel
theorem dX10_circuit_52 : decode cX10_circuit 52 = .ok (.invokevirtual 160, 3) := by decide +kernel
theorem dX10_circuit_55 : decode cX10_circuit 55 = .ok (.iconst 2, 1) := by decide +kernel
theorem dX10_circuit_56 : decode cX10_circuit 56 = .ok (.if_icmp .ne 19, 3) := by decide +kernel
theorem dX10_circuit_59 : decode cX10_circuit 59 = .ok (.aload_n 0, 1) := by decide +kernel
theorem dX10_circuit_60 : decode cX10_circuit 60 = .ok (.getfield 40, 3) := by decide +kernel
theorem dX10_circuit_63 : decode cX10_circuit 63 = .ok (.getfield 226, 3) := by decide +kernel
theorem dX10_circuit_66 : decode cX10_circuit 66 = .ok (.lconst 0, 1) := by decide +kernel
theorem dX10_circuit_67 : decode cX10_circuit 67 = .ok (.lcmp, 1) := by decide +kernel
theorem dX10_circuit_68 : decode cX10_circuit 68 = .ok (.ifCond .ge 7, 3) := by decide +kernel
theorem dX10_circuit_71 : decode cX10_circuit 71 = .ok (.iconst 1, 1) := by decide +kernel
theorem dX10_circuit_72 : decode cX10_circuit 72 = .ok (.goto 4, 3) := by decide +kernel
theorem dX10_circuit_75 : decode cX10_circuit 75 = .ok (.iconst 0, 1) := by decide +kernel
theorem dX10_circuit_76 : decode cX10_circuit 76 = .ok (.ireturn, 1) := by decide +kernel
theorem dX10_force_0 : decode cX10_force 0 = .ok (.aload_n 0, 1) := by decide +kernel
theorem dX10_force_1 : decode cX10_force 1 = .ok (.aload_n 0, 1) := by decide +kernel
theorem dX10_force_2 : decode cX10_force 2 = .ok (.iload_n 1, 1) := by decide +kernel
theorem dX10_force_3 : decode cX10_force 3 = .ok (.invokevirtual 133, 3) := by decide +kernel
theorem dX10_force_6 : decode cX10_force 6 = .ok (.ifCond .eq 14, 3) := by decide +kernel
theorem dX10_force_9 : decode cX10_force 9 = .ok (.iload_n 2, 1) := by decide +kernel
theorem dX10_force_10 : decode cX10_force 10 = .ok (.invokestatic 114, 3) := by decide +kernel
theorem dX10_force_13 : decode cX10_force 13 = .ok (.ifCond .eq 7, 3) := by decide +kernel
theorem dX10_force_16 : decode cX10_force 16 = .ok (.iconst 1, 1) := by decide +kernel
theorem dX10_force_17 : decode cX10_force 17 = .ok (.goto 4, 3) := by decide +kernel
theorem dX10_force_20 : decode cX10_force 20 = .ok (.iconst 0, 1) := by decide +kernel
theorem dX10_force_21 : decode cX10_force 21 = .ok (.iconst 1, 1) := by decide +kernel
theorem dX10_force_22 : decode cX10_force 22 = .ok (.invokevirtual 84, 3) := by decide +kernel
theorem dX10_force_25 : decode cX10_force 25 = .ok (.ifCond .eq 7, 3) := by decide +kernel
theorem dX10_force_28 : decode cX10_force 28 = .ok (.ldc2_w 194, 3) := by decide +kernel
theorem dX10_force_31 : decode cX10_force 31 = .ok (.lreturn, 1) := by decide +kernel
theorem dX10_force_32 : decode cX10_force 32 = .ok (.aload_n 0, 1) := by decide +kernel
theorem dX10_force_33 : decode cX10_force 33 = .ok (.aload_n 0, 1) := by decide +kernel
theorem dX10_force_34 : decode cX10_force 34 = .ok (.iload_n 1, 1) := by decide +kernel
theorem dX10_force_35 : decode cX10_force 35 = .ok (.iload_n 2, 1) := by decide +kernel
theorem dX10_force_36 : decode cX10_force 36 = .ok (.invokevirtual 166, 3) := by decide +kernel
theorem dX10_force_39 : decode cX10_force 39 = .ok (.invokevirtual 203, 3) := by decide +kernel
theorem dX10_force_42 : decode cX10_force 42 = .ok (.iconst 5, 1) := by decide +kernel
theorem dX10_force_43 : decode cX10_force 43 = .ok (.invokevirtual 84, 3) := by decide +kernel
theorem dX10_force_46 : decode cX10_force 46 = .ok (.ifCond .eq 7, 3) := by decide +kernel
theorem dX10_force_49 : decode cX10_force 49 = .ok (.ldc2_w 194, 3) := by decide +kernel
theorem dX10_force_52 : decode cX10_force 52 = .ok (.lreturn, 1) := by decide +kernel
theorem dX10_force_53 : decode cX10_force 53 = .ok (.aload_n 0, 1) := by decide +kernel
theorem dX10_force_54 : decode cX10_force 54 = .ok (.getfield 40, 3) := by decide +kernel
theorem dX10_force_57 : decode cX10_force 57 = .ok (.invokevirtual 229, 3) := by decide +kernel
theorem dX10_force_60 : decode cX10_force 60 = .ok (.aload_n 0, 1) := by decide +kernel
theorem dX10_force_61 : decode cX10_force 61 = .ok (.getfield 40, 3) := by decide +kernel
theorem dX10_force_64 : decode cX10_force 64 = .ok (.invokevirtual 233, 3) := by decide +kernel
theorem dX10_force_67 : decode cX10_force 67 = .ok (.iload_n 3, 1) := by decide +kernel
theorem dX10_force_68 : decode cX10_force 68 = .ok (.invokestatic 188, 3) := by decide +kernel
theorem dX10_force_71 : decode cX10_force 71 = .ok (.lreturn, 1) := by decide +kernel
theorem dX10_easiest_0 : decode cX10_easiest 0 = .ok (.aload_n 0, 1) := by decide +kernel
theorem dX10_easiest_1 : decode cX10_easiest 1 = .ok (.aload_n 0, 1) := by decide +kernel
theorem dX10_easiest_2 : decode cX10_easiest 2 = .ok (.iload_n 1, 1) := by decide +kernel
theorem dX10_easiest_3 : decode cX10_easiest 3 = .ok (.invokevirtual 133, 3) := by decide +kernel
theorem dX10_easiest_6 : decode cX10_easiest 6 = .ok (.iconst 1, 1) := by decide +kernel
theorem dX10_easiest_7 : decode cX10_easiest 7 = .ok (.invokevirtual 84, 3) := by decide +kernel
theorem dX10_easiest_10 : decode cX10_easiest 10 = .ok (.ifCond .eq 5, 3) := by decide +kernel
theorem dX10_easiest_13 : decode cX10_easiest 13 = .ok (.iconst (-1), 1) := by decide +kernel
theorem dX10_easiest_14 : decode cX10_easiest 14 = .ok (.ireturn, 1) := by decide +kernel
theorem dX10_easiest_15 : decode cX10_easiest 15 = .ok (.aload_n 0, 1) := by decide +kernel
theorem dX10_easiest_16 : decode cX10_easiest 16 = .ok (.iload_n 1, 1) := by decide +kernel
theorem dX10_easiest_17 : decode cX10_easiest 17 = .ok (.invokevirtual 140, 3) := by decide +kernel
theorem dX10_easiest_20 : decode cX10_easiest 20 = .ok (.pop, 1) := by decide +kernel
theorem dX10_easiest_21 : decode cX10_easiest 21 = .ok (.bipush (-2), 2) := by decide +kernel
theorem dX10_easiest_23 : decode cX10_easiest 23 = .ok (.istore_n 2, 1) := by decide +kernel
theorem dX10_easiest_24 : decode cX10_easiest 24 = .ok (.lconst 0, 1) := by decide +kernel
theorem dX10_easiest_25 : decode cX10_easiest 25 = .ok (.lstore_n 3, 1) := by decide +kernel
theorem dX10_easiest_26 : decode cX10_easiest 26 = .ok (.lconst 1, 1) := by decide +kernel
theorem dX10_easiest_27 : decode cX10_easiest 27 = .ok (.lstore 5, 2) := by decide +kernel
theorem dX10_easiest_29 : decode cX10_easiest 29 = .ok (.iconst 0, 1) := by decide +kernel
theorem dX10_easiest_30 : decode cX10_easiest 30 = .ok (.istore 7, 2) := by decide +kernel
theorem dX10_easiest_32 : decode cX10_easiest 32 = .ok (.iload 7, 2) := by decide +kernel
theorem dX10_easiest_34 : decode cX10_easiest 34 = .ok (.bipush 40, 2) := by decide +kernel
theorem dX10_easiest_36 : decode cX10_easiest 36 = .ok (.if_icmp .ge 95, 3) := by decide +kernel
theorem dX10_easiest_39 : decode cX10_easiest 39 = .ok (.aload_n 0, 1) := by decide +kernel
theorem dX10_easiest_40 : decode cX10_easiest 40 = .ok (.getfield 40, 3) := by decide +kernel
theorem dX10_easiest_43 : decode cX10_easiest 43 = .ok (.aload_n 0, 1) := by decide +kernel
theorem dX10_easiest_44 : decode cX10_easiest 44 = .ok (.getfield 33, 3) := by decide +kernel
theorem dX10_easiest_47 : decode cX10_easiest 47 = .ok (.iload 7, 2) := by decide +kernel
theorem dX10_easiest_49 : decode cX10_easiest 49 = .ok (.invokevirtual 236, 3) := by decide +kernel
theorem dX10_easiest_52 : decode cX10_easiest 52 = .ok (.aload_n 0, 1) := by decide +kernel
theorem dX10_easiest_53 : decode cX10_easiest 53 = .ok (.getfield 40, 3) := by decide +kernel
theorem dX10_easiest_56 : decode cX10_easiest 56 = .ok (.invokevirtual 229, 3) := by decide +kernel
theorem dX10_easiest_59 : decode cX10_easiest 59 = .ok (.invokestatic 240, 3) := by decide +kernel
theorem dX10_easiest_62 : decode cX10_easiest 62 = .ok (.lstore 8, 2) := by decide +kernel
theorem dX10_easiest_64 : decode cX10_easiest 64 = .ok (.iload_n 2, 1) := by decide +kernel
theorem dX10_easiest_65 : decode cX10_easiest 65 = .ok (.bipush (-2), 2) := by decide +kernel
theorem dX10_easiest_67 : decode cX10_easiest 67 = .ok (.if_icmp .eq 21, 3) := by decide +kernel
theorem dX10_easiest_70 : decode cX10_easiest 70 = .ok (.lload 8, 2) := by decide +kernel
theorem dX10_easiest_72 : decode cX10_easiest 72 = .ok (.lload 5, 2) := by decide +kernel
theorem dX10_easiest_74 : decode cX10_easiest 74 = .ok (.lmul, 1) := by decide +kernel
theorem dX10_easiest_75 : decode cX10_easiest 75 = .ok (.lload_n 3, 1) := by decide +kernel
theorem dX10_easiest_76 : decode cX10_easiest 76 = .ok (.aload_n 0, 1) := by decide +kernel
theorem dX10_easiest_77 : decode cX10_easiest 77 = .ok (.getfield 40, 3) := by decide +kernel
theorem dX10_easiest_80 : decode cX10_easiest 80 = .ok (.invokevirtual 233, 3) := by decide +kernel
theorem dX10_easiest_83 : decode cX10_easiest 83 = .ok (.lmul, 1) := by decide +kernel
theorem dX10_easiest_84 : decode cX10_easiest 84 = .ok (.lcmp, 1) := by decide +kernel
theorem dX10_easiest_85 : decode cX10_easiest 85 = .ok (.ifCond .ge 7, 3) := by decide +kernel
theorem dX10_easiest_88 : decode cX10_easiest 88 = .ok (.iconst 1, 1) := by decide +kernel
theorem dX10_easiest_89 : decode cX10_easiest 89 = .ok (.goto 4, 3) := by decide +kernel
theorem dX10_easiest_92 : decode cX10_easiest 92 = .ok (.iconst 0, 1) := by decide +kernel
theorem dX10_easiest_93 : decode cX10_easiest 93 = .ok (.istore 10, 2) := by decide +kernel
theorem dX10_easiest_95 : decode cX10_easiest 95 = .ok (.aload_n 0, 1) := by decide +kernel
theorem dX10_easiest_96 : decode cX10_easiest 96 = .ok (.getfield 40, 3) := by decide +kernel
theorem dX10_easiest_99 : decode cX10_easiest 99 = .ok (.invokevirtual 203, 3) := by decide +kernel
theorem dX10_easiest_102 : decode cX10_easiest 102 = .ok (.ifCond .eq 23, 3) := by decide +kernel
theorem dX10_easiest_105 : decode cX10_easiest 105 = .ok (.iload 10, 2) := by decide +kernel
theorem dX10_easiest_107 : decode cX10_easiest 107 = .ok (.ifCond .eq 18, 3) := by decide +kernel
theorem dX10_easiest_110 : decode cX10_easiest 110 = .ok (.iload 7, 2) := by decide +kernel
theorem dX10_easiest_112 : decode cX10_easiest 112 = .ok (.istore_n 2, 1) := by decide +kernel
theorem dX10_easiest_113 : decode cX10_easiest 113 = .ok (.lload 8, 2) := by decide +kernel
theorem dX10_easiest_115 : decode cX10_easiest 115 = .ok (.lstore_n 3, 1) := by decide +kernel
theorem dX10_easiest_116 : decode cX10_easiest 116 = .ok (.aload_n 0, 1) := by decide +kernel
theorem dX10_easiest_117 : decode cX10_easiest 117 = .ok (.getfield 40, 3) := by decide +kernel
theorem dX10_easiest_120 : decode cX10_easiest 120 = .ok (.invokevirtual 233, 3) := by decide +kernel
theorem dX10_easiest_123 : decode cX10_easiest 123 = .ok (.lstore 5, 2) := by decide +kernel
theorem dX10_easiest_125 : decode cX10_easiest 125 = .ok (.iinc 7 1, 3) := by decide +kernel
theorem dX10_easiest_128 : decode cX10_easiest 128 = .ok (.goto (-96), 3) := by decide +kernel
theorem dX10_easiest_131 : decode cX10_easiest 131 = .ok (.iload_n 2, 1) := by decide +kernel
theorem dX10_easiest_132 : decode cX10_easiest 132 = .ok (.ireturn, 1) := by decide +kernel
theorem dX10_swing_0 : decode cX10_swing 0 = .ok (.aload_n 0, 1) := by decide +kernel
theorem dX10_swing_1 : decode cX10_swing 1 = .ok (.aload_n 0, 1) := by decide +kernel
theorem dX10_swing_2 : decode cX10_swing 2 = .ok (.iload_n 1, 1) := by decide +kernel
theorem dX10_swing_3 : decode cX10_swing 3 = .ok (.invokevirtual 133, 3) := by decide +kernel
theorem dX10_swing_6 : decode cX10_swing 6 = .ok (.iconst 1, 1) := by decide +kernel
theorem dX10_swing_7 : decode cX10_swing 7 = .ok (.invokevirtual 84, 3) := by decide +kernel
theorem dX10_swing_10 : decode cX10_swing 10 = .ok (.ifCond .eq 7, 3) := by decide +kernel
theorem dX10_swing_13 : decode cX10_swing 13 = .ok (.ldc2_w 194, 3) := by decide +kernel
theorem dX10_swing_16 : decode cX10_swing 16 = .ok (.lreturn, 1) := by decide +kernel
theorem dX10_swing_17 : decode cX10_swing 17 = .ok (.aload_n 0, 1) := by decide +kernel
theorem dX10_swing_18 : decode cX10_swing 18 = .ok (.aload_n 0, 1) := by decide +kernel
theorem dX10_swing_19 : decode cX10_swing 19 = .ok (.iload_n 1, 1) := by decide +kernel
theorem dX10_swing_20 : decode cX10_swing 20 = .ok (.invokevirtual 140, 3) := by decide +kernel
theorem dX10_swing_23 : decode cX10_swing 23 = .ok (.invokevirtual 246, 3) := by decide +kernel
theorem dX10_swing_26 : decode cX10_swing 26 = .ok (.iconst 5, 1) := by decide +kernel
theorem dX10_swing_27 : decode cX10_swing 27 = .ok (.invokevirtual 84, 3) := by decide +kernel
theorem dX10_swing_30 : decode cX10_swing 30 = .ok (.ifCond .eq 7, 3) := by decide +kernel
theorem dX10_swing_33 : decode cX10_swing 33 = .ok (.ldc2_w 194, 3) := by decide +kernel
theorem dX10_swing_36 : decode cX10_swing 36 = .ok (.lreturn, 1) := by decide +kernel
theorem dX10_swing_37 : decode cX10_swing 37 = .ok (.iload_n 2, 1) := by decide +kernel
theorem dX10_swing_38 : decode cX10_swing 38 = .ok (.ifCond .eq 13, 3) := by decide +kernel
theorem dX10_swing_41 : decode cX10_swing 41 = .ok (.aload_n 0, 1) := by decide +kernel
theorem dX10_swing_42 : decode cX10_swing 42 = .ok (.getfield 33, 3) := by decide +kernel
theorem dX10_swing_45 : decode cX10_swing 45 = .ok (.invokevirtual 249, 3) := by decide +kernel
theorem dX10_swing_48 : decode cX10_swing 48 = .ok (.goto 10, 3) := by decide +kernel
theorem dX10_swing_51 : decode cX10_swing 51 = .ok (.aload_n 0, 1) := by decide +kernel
theorem dX10_swing_52 : decode cX10_swing 52 = .ok (.getfield 33, 3) := by decide +kernel
theorem dX10_swing_55 : decode cX10_swing 55 = .ok (.invokevirtual 252, 3) := by decide +kernel
theorem dX10_swing_58 : decode cX10_swing 58 = .ok (.istore 4, 2) := by decide +kernel
theorem dX10_swing_60 : decode cX10_swing 60 = .ok (.aload_n 0, 1) := by decide +kernel
theorem dX10_swing_61 : decode cX10_swing 61 = .ok (.getfield 33, 3) := by decide +kernel
theorem dX10_swing_64 : decode cX10_swing 64 = .ok (.iload 4, 2) := by decide +kernel
theorem dX10_swing_66 : decode cX10_swing 66 = .ok (.invokevirtual 255, 3) := by decide +kernel
theorem dX10_swing_69 : decode cX10_swing 69 = .ok (.i2l, 1) := by decide +kernel
theorem dX10_swing_70 : decode cX10_swing 70 = .ok (.aload_n 0, 1) := by decide +kernel
theorem dX10_swing_71 : decode cX10_swing 71 = .ok (.getfield 33, 3) := by decide +kernel
theorem dX10_swing_74 : decode cX10_swing 74 = .ok (.invokevirtual 258, 3) := by decide +kernel
theorem dX10_swing_77 : decode cX10_swing 77 = .ok (.i2l, 1) := by decide +kernel
theorem dX10_swing_78 : decode cX10_swing 78 = .ok (.iload_n 3, 1) := by decide +kernel
theorem dX10_swing_79 : decode cX10_swing 79 = .ok (.invokestatic 188, 3) := by decide +kernel
theorem dX10_swing_82 : decode cX10_swing 82 = .ok (.lreturn, 1) := by decide +kernel
theorem dX10_rate_0 : decode cX10_rate 0 = .ok (.aload_n 0, 1) := by decide +kernel
theorem dX10_rate_1 : decode cX10_rate 1 = .ok (.aload_n 0, 1) := by decide +kernel
theorem dX10_rate_2 : decode cX10_rate 2 = .ok (.iload_n 1, 1) := by decide +kernel
theorem dX10_rate_3 : decode cX10_rate 3 = .ok (.iload_n 2, 1) := by decide +kernel
theorem dX10_rate_4 : decode cX10_rate 4 = .ok (.iload_n 3, 1) := by decide +kernel
theorem dX10_rate_5 : decode cX10_rate 5 = .ok (.invokevirtual 199, 3) := by decide +kernel
theorem dX10_rate_8 : decode cX10_rate 8 = .ok (.ifCond .eq 16, 3) := by decide +kernel
theorem dX10_rate_11 : decode cX10_rate 11 = .ok (.iload 4, 2) := by decide +kernel
theorem dX10_rate_13 : decode cX10_rate 13 = .ok (.iconst 3, 1) := by decide +kernel
theorem dX10_rate_14 : decode cX10_rate 14 = .ok (.invokestatic 118, 3) := by decide +kernel
theorem dX10_rate_17 : decode cX10_rate 17 = .ok (.ifCond .eq 7, 3) := by decide +kernel
theorem dX10_rate_20 : decode cX10_rate 20 = .ok (.iconst 1, 1) := by decide +kernel
theorem dX10_rate_21 : decode cX10_rate 21 = .ok (.goto 4, 3) := by decide +kernel
theorem dX10_rate_24 : decode cX10_rate 24 = .ok (.iconst 0, 1) := by decide +kernel
theorem dX10_rate_25 : decode cX10_rate 25 = .ok (.iconst 1, 1) := by decide +kernel
theorem dX10_rate_26 : decode cX10_rate 26 = .ok (.invokevirtual 84, 3) := by decide +kernel
theorem dX10_rate_29 : decode cX10_rate 29 = .ok (.ifCond .eq 7, 3) := by decide +kernel
theorem dX10_rate_32 : decode cX10_rate 32 = .ok (.ldc2_w 194, 3) := by decide +kernel
theorem dX10_rate_35 : decode cX10_rate 35 = .ok (.lreturn, 1) := by decide +kernel
theorem dX10_rate_36 : decode cX10_rate 36 = .ok (.aload_n 0, 1) := by decide +kernel
theorem dX10_rate_37 : decode cX10_rate 37 = .ok (.aload_n 0, 1) := by decide +kernel
theorem dX10_rate_38 : decode cX10_rate 38 = .ok (.iload_n 1, 1) := by decide +kernel
theorem dX10_rate_39 : decode cX10_rate 39 = .ok (.iload_n 2, 1) := by decide +kernel
theorem dX10_rate_40 : decode cX10_rate 40 = .ok (.invokevirtual 166, 3) := by decide +kernel
theorem dX10_rate_43 : decode cX10_rate 43 = .ok (.invokevirtual 170, 3) := by decide +kernel
theorem dX10_rate_46 : decode cX10_rate 46 = .ok (.iconst 1, 1) := by decide +kernel
theorem dX10_rate_47 : decode cX10_rate 47 = .ok (.if_icmp .ne 7, 3) := by decide +kernel
theorem dX10_rate_50 : decode cX10_rate 50 = .ok (.iconst 1, 1) := by decide +kernel
theorem dX10_rate_51 : decode cX10_rate 51 = .ok (.goto 4, 3) := by decide +kernel
theorem dX10_rate_54 : decode cX10_rate 54 = .ok (.iconst 0, 1) := by decide +kernel
theorem dX10_rate_55 : decode cX10_rate 55 = .ok (.iconst 5, 1) := by decide +kernel
theorem dX10_rate_56 : decode cX10_rate 56 = .ok (.invokevirtual 84, 3) := by decide +kernel
theorem dX10_rate_59 : decode cX10_rate 59 = .ok (.ifCond .eq 7, 3) := by decide +kernel
theorem dX10_rate_62 : decode cX10_rate 62 = .ok (.ldc2_w 194, 3) := by decide +kernel
theorem dX10_rate_65 : decode cX10_rate 65 = .ok (.lreturn, 1) := by decide +kernel
theorem dX10_rate_66 : decode cX10_rate 66 = .ok (.aload_n 0, 1) := by decide +kernel
theorem dX10_rate_67 : decode cX10_rate 67 = .ok (.getfield 40, 3) := by decide +kernel
theorem dX10_rate_70 : decode cX10_rate 70 = .ok (.iload_n 3, 1) := by decide +kernel
theorem dX10_rate_71 : decode cX10_rate 71 = .ok (.iload 4, 2) := by decide +kernel
theorem dX10_rate_73 : decode cX10_rate 73 = .ok (.invokevirtual 261, 3) := by decide +kernel
theorem dX10_rate_76 : decode cX10_rate 76 = .ok (.lreturn, 1) := by decide +kernel
theorem dX10_tracer_0 : decode cX10_tracer 0 = .ok (.aload_n 0, 1) := by decide +kernel
theorem dX10_tracer_1 : decode cX10_tracer 1 = .ok (.aload_n 0, 1) := by decide +kernel
theorem dX10_tracer_2 : decode cX10_tracer 2 = .ok (.getfield 23, 3) := by decide +kernel
theorem dX10_tracer_5 : decode cX10_tracer 5 = .ok (.iconst 1, 1) := by decide +kernel
theorem dX10_tracer_6 : decode cX10_tracer 6 = .ok (.iload_n 1, 1) := by decide +kernel
theorem dX10_tracer_7 : decode cX10_tracer 7 = .ok (.invokevirtual 264, 3) := by decide +kernel
theorem dX10_tracer_10 : decode cX10_tracer 10 = .ok (.ifCond .eq 15, 3) := by decide +kernel
theorem dX10_tracer_13 : decode cX10_tracer 13 = .ok (.iload_n 2, 1) := by decide +kernel
theorem dX10_tracer_14 : decode cX10_tracer 14 = .ok (.iconst 2, 1) := by decide +kernel
theorem dX10_tracer_15 : decode cX10_tracer 15 = .ok (.invokestatic 118, 3) := by decide +kernel
theorem dX10_tracer_18 : decode cX10_tracer 18 = .ok (.ifCond .eq 7, 3) := by decide +kernel
theorem dX10_tracer_21 : decode cX10_tracer 21 = .ok (.iconst 1, 1) := by decide +kernel
theorem dX10_tracer_22 : decode cX10_tracer 22 = .ok (.goto 4, 3) := by decide +kernel
theorem dX10_tracer_25 : decode cX10_tracer 25 = .ok (.iconst 0, 1) := by decide +kernel
theorem dX10_tracer_26 : decode cX10_tracer 26 = .ok (.iconst 1, 1) := by decide +kernel
theorem dX10_tracer_27 : decode cX10_tracer 27 = .ok (.invokevirtual 84, 3) := by decide +kernel
theorem dX10_tracer_30 : decode cX10_tracer 30 = .ok (.ifCond .eq 6, 3) := by decide +kernel
theorem dX10_tracer_33 : decode cX10_tracer 33 = .ok (.ldc 122, 2) := by decide +kernel
theorem dX10_tracer_35 : decode cX10_tracer 35 = .ok (.ireturn, 1) := by decide +kernel
theorem dX10_tracer_36 : decode cX10_tracer 36 = .ok (.aload_n 0, 1) := by decide +kernel
theorem dX10_tracer_37 : decode cX10_tracer 37 = .ok (.getfield 23, 3) := by decide +kernel
theorem dX10_tracer_40 : decode cX10_tracer 40 = .ok (.iconst 1, 1) := by decide +kernel
theorem dX10_tracer_41 : decode cX10_tracer 41 = .ok (.iload_n 1, 1) := by decide +kernel
theorem dX10_tracer_42 : decode cX10_tracer 42 = .ok (.iload_n 2, 1) := by decide +kernel
theorem dX10_tracer_43 : decode cX10_tracer 43 = .ok (.invokevirtual 136, 3) := by decide +kernel
theorem dX10_tracer_46 : decode cX10_tracer 46 = .ok (.ireturn, 1) := by decide +kernel
theorem dX10_point_0 : decode cX10_point 0 = .ok (.aload_n 0, 1) := by decide +kernel
theorem dX10_point_1 : decode cX10_point 1 = .ok (.aload_n 0, 1) := by decide +kernel
theorem dX10_point_2 : decode cX10_point 2 = .ok (.getfield 23, 3) := by decide +kernel
theorem dX10_point_5 : decode cX10_point 5 = .ok (.iconst 2, 1) := by decide +kernel
theorem dX10_point_6 : decode cX10_point 6 = .ok (.iload_n 1, 1) := by decide +kernel
theorem dX10_point_7 : decode cX10_point 7 = .ok (.invokevirtual 264, 3) := by decide +kernel
theorem dX10_point_10 : decode cX10_point 10 = .ok (.ifCond .eq 15, 3) := by decide +kernel
theorem dX10_point_13 : decode cX10_point 13 = .ok (.iload_n 2, 1) := by decide +kernel
theorem dX10_point_14 : decode cX10_point 14 = .ok (.iconst 2, 1) := by decide +kernel
theorem dX10_point_15 : decode cX10_point 15 = .ok (.invokestatic 118, 3) := by decide +kernel
theorem dX10_point_18 : decode cX10_point 18 = .ok (.ifCond .eq 7, 3) := by decide +kernel
theorem dX10_point_21 : decode cX10_point 21 = .ok (.iconst 1, 1) := by decide +kernel
theorem dX10_point_22 : decode cX10_point 22 = .ok (.goto 4, 3) := by decide +kernel
theorem dX10_point_25 : decode cX10_point 25 = .ok (.iconst 0, 1) := by decide +kernel
theorem dX10_point_26 : decode cX10_point 26 = .ok (.iconst 1, 1) := by decide +kernel
theorem dX10_point_27 : decode cX10_point 27 = .ok (.invokevirtual 84, 3) := by decide +kernel
theorem dX10_point_30 : decode cX10_point 30 = .ok (.ifCond .eq 6, 3) := by decide +kernel
theorem dX10_point_33 : decode cX10_point 33 = .ok (.ldc 122, 2) := by decide +kernel
theorem dX10_point_35 : decode cX10_point 35 = .ok (.ireturn, 1) := by decide +kernel
theorem dX10_point_36 : decode cX10_point 36 = .ok (.aload_n 0, 1) := by decide +kernel
theorem dX10_point_37 : decode cX10_point 37 = .ok (.getfield 23, 3) := by decide +kernel
theorem dX10_point_40 : decode cX10_point 40 = .ok (.iconst 2, 1) := by decide +kernel
theorem dX10_point_41 : decode cX10_point 41 = .ok (.iload_n 1, 1) := by decide +kernel
theorem dX10_point_42 : decode cX10_point 42 = .ok (.iload_n 2, 1) := by decide +kernel
theorem dX10_point_43 : decode cX10_point 43 = .ok (.invokevirtual 136, 3) := by decide +kernel
theorem dX10_point_46 : decode cX10_point 46 = .ok (.ireturn, 1) := by decide +kernel
theorem dX10_traced_0 : decode cX10_traced 0 = .ok (.aload_n 0, 1) := by decide +kernel
theorem dX10_traced_1 : decode cX10_traced 1 = .ok (.aload_n 0, 1) := by decide +kernel
theorem dX10_traced_2 : decode cX10_traced 2 = .ok (.iload_n 1, 1) := by decide +kernel
theorem dX10_traced_3 : decode cX10_traced 3 = .ok (.iload_n 2, 1) := by decide +kernel
theorem dX10_traced_4 : decode cX10_traced 4 = .ok (.iload 4, 2) := by decide +kernel
theorem dX10_traced_6 : decode cX10_traced 6 = .ok (.invokevirtual 266, 3) := by decide +kernel
theorem dX10_traced_9 : decode cX10_traced 9 = .ok (.ifCond .eq 23, 3) := by decide +kernel
theorem dX10_traced_12 : decode cX10_traced 12 = .ok (.iload_n 3, 1) := by decide +kernel
theorem dX10_traced_13 : decode cX10_traced 13 = .ok (.invokestatic 114, 3) := by decide +kernel
theorem dX10_traced_16 : decode cX10_traced 16 = .ok (.ifCond .eq 16, 3) := by decide +kernel
theorem dX10_traced_19 : decode cX10_traced 19 = .ok (.iload 5, 2) := by decide +kernel
theorem dX10_traced_21 : decode cX10_traced 21 = .ok (.iconst 2, 1) := by decide +kernel
theorem dX10_traced_22 : decode cX10_traced 22 = .ok (.invokestatic 118, 3) := by decide +kernel
theorem dX10_traced_25 : decode cX10_traced 25 = .ok (.ifCond .eq 7, 3) := by decide +kernel
theorem dX10_traced_28 : decode cX10_traced 28 = .ok (.iconst 1, 1) := by decide +kernel
theorem dX10_traced_29 : decode cX10_traced 29 = .ok (.goto 4, 3) := by decide +kernel
theorem dX10_traced_32 : decode cX10_traced 32 = .ok (.iconst 0, 1) := by decide +kernel
theorem dX10_traced_33 : decode cX10_traced 33 = .ok (.iconst 1, 1) := by decide +kernel
theorem dX10_traced_34 : decode cX10_traced 34 = .ok (.invokevirtual 84, 3) := by decide +kernel
theorem dX10_traced_37 : decode cX10_traced 37 = .ok (.ifCond .eq 6, 3) := by decide +kernel
theorem dX10_traced_40 : decode cX10_traced 40 = .ok (.ldc 122, 2) := by decide +kernel
theorem dX10_traced_42 : decode cX10_traced 42 = .ok (.ireturn, 1) := by decide +kernel
theorem dX10_traced_43 : decode cX10_traced 43 = .ok (.aload_n 0, 1) := by decide +kernel
theorem dX10_traced_44 : decode cX10_traced 44 = .ok (.aload_n 0, 1) := by decide +kernel
theorem dX10_traced_45 : decode cX10_traced 45 = .ok (.iload_n 1, 1) := by decide +kernel
theorem dX10_traced_46 : decode cX10_traced 46 = .ok (.iload_n 3, 1) := by decide +kernel
theorem dX10_traced_47 : decode cX10_traced 47 = .ok (.invokevirtual 166, 3) := by decide +kernel
theorem dX10_traced_50 : decode cX10_traced 50 = .ok (.invokevirtual 203, 3) := by decide +kernel
theorem dX10_traced_53 : decode cX10_traced 53 = .ok (.iconst 5, 1) := by decide +kernel
theorem dX10_traced_54 : decode cX10_traced 54 = .ok (.invokevirtual 84, 3) := by decide +kernel
theorem dX10_traced_57 : decode cX10_traced 57 = .ok (.ifCond .eq 6, 3) := by decide +kernel
theorem dX10_traced_60 : decode cX10_traced 60 = .ok (.ldc 122, 2) := by decide +kernel
theorem dX10_traced_62 : decode cX10_traced 62 = .ok (.ireturn, 1) := by decide +kernel
theorem dX10_traced_63 : decode cX10_traced 63 = .ok (.aload_n 0, 1) := by decide +kernel
theorem dX10_traced_64 : decode cX10_traced 64 = .ok (.getfield 40, 3) := by decide +kernel
theorem dX10_traced_67 : decode cX10_traced 67 = .ok (.aload_n 0, 1) := by decide +kernel
theorem dX10_traced_68 : decode cX10_traced 68 = .ok (.getfield 23, 3) := by decide +kernel
theorem dX10_traced_71 : decode cX10_traced 71 = .ok (.iconst 1, 1) := by decide +kernel
theorem dX10_traced_72 : decode cX10_traced 72 = .ok (.iload_n 2, 1) := by decide +kernel
theorem dX10_traced_73 : decode cX10_traced 73 = .ok (.iconst 0, 1) := by decide +kernel
theorem dX10_traced_74 : decode cX10_traced 74 = .ok (.invokevirtual 136, 3) := by decide +kernel
theorem dX10_traced_77 : decode cX10_traced 77 = .ok (.aload_n 0, 1) := by decide +kernel
theorem dX10_traced_78 : decode cX10_traced 78 = .ok (.getfield 23, 3) := by decide +kernel
theorem dX10_traced_81 : decode cX10_traced 81 = .ok (.iconst 1, 1) := by decide +kernel
theorem dX10_traced_82 : decode cX10_traced 82 = .ok (.iload_n 2, 1) := by decide +kernel
theorem dX10_traced_83 : decode cX10_traced 83 = .ok (.iconst 1, 1) := by decide +kernel
theorem dX10_traced_84 : decode cX10_traced 84 = .ok (.invokevirtual 136, 3) := by decide +kernel
theorem dX10_traced_87 : decode cX10_traced 87 = .ok (.iload 4, 2) := by decide +kernel
theorem dX10_traced_89 : decode cX10_traced 89 = .ok (.invokevirtual 206, 3) := by decide +kernel
theorem dX10_traced_92 : decode cX10_traced 92 = .ok (.iload 5, 2) := by decide +kernel
theorem dX10_traced_94 : decode cX10_traced 94 = .ok (.ifCond .ne 13, 3) := by decide +kernel
theorem dX10_traced_97 : decode cX10_traced 97 = .ok (.aload_n 0, 1) := by decide +kernel
theorem dX10_traced_98 : decode cX10_traced 98 = .ok (.getfield 40, 3) := by decide +kernel
theorem dX10_traced_101 : decode cX10_traced 101 = .ok (.invokevirtual 210, 3) := by decide +kernel
theorem dX10_traced_104 : decode cX10_traced 104 = .ok (.goto 10, 3) := by decide +kernel
theorem dX10_traced_107 : decode cX10_traced 107 = .ok (.aload_n 0, 1) := by decide +kernel
theorem dX10_traced_108 : decode cX10_traced 108 = .ok (.getfield 40, 3) := by decide +kernel
theorem dX10_traced_111 : decode cX10_traced 111 = .ok (.invokevirtual 213, 3) := by decide +kernel
theorem dX10_traced_114 : decode cX10_traced 114 = .ok (.ireturn, 1) := by decide +kernel
theorem dX10_box_0 : decode cX10_box 0 = .ok (.aload_n 0, 1) := by decide +kernel
theorem dX10_box_1 : decode cX10_box 1 = .ok (.aload_n 0, 1) := by decide +kernel
theorem dX10_box_2 : decode cX10_box 2 = .ok (.iload_n 1, 1) := by decide +kernel
theorem dX10_box_3 : decode cX10_box 3 = .ok (.iload_n 2, 1) := by decide +kernel
theorem dX10_box_4 : decode cX10_box 4 = .ok (.iload_n 3, 1) := by decide +kernel
theorem dX10_box_5 : decode cX10_box 5 = .ok (.invokevirtual 266, 3) := by decide +kernel
theorem dX10_box_8 : decode cX10_box 8 = .ok (.ifCond .eq 16, 3) := by decide +kernel
theorem dX10_box_11 : decode cX10_box 11 = .ok (.iload 4, 2) := by decide +kernel
theorem dX10_box_13 : decode cX10_box 13 = .ok (.iconst 4, 1) := by decide +kernel
theorem dX10_box_14 : decode cX10_box 14 = .ok (.invokestatic 118, 3) := by decide +kernel
theorem dX10_box_17 : decode cX10_box 17 = .ok (.ifCond .eq 7, 3) := by decide +kernel
theorem dX10_box_20 : decode cX10_box 20 = .ok (.iconst 1, 1) := by decide +kernel
theorem dX10_box_21 : decode cX10_box 21 = .ok (.goto 4, 3) := by decide +kernel
theorem dX10_box_24 : decode cX10_box 24 = .ok (.iconst 0, 1) := by decide +kernel
theorem dX10_box_25 : decode cX10_box 25 = .ok (.iconst 1, 1) := by decide +kernel
theorem dX10_box_26 : decode cX10_box 26 = .ok (.invokevirtual 84, 3) := by decide +kernel
theorem dX10_box_29 : decode cX10_box 29 = .ok (.ifCond .eq 6, 3) := by decide +kernel
theorem dX10_box_32 : decode cX10_box 32 = .ok (.ldc 122, 2) := by decide +kernel
theorem dX10_box_34 : decode cX10_box 34 = .ok (.ireturn, 1) := by decide +kernel
theorem dX10_box_35 : decode cX10_box 35 = .ok (.aload_n 0, 1) := by decide +kernel
theorem dX10_box_36 : decode cX10_box 36 = .ok (.aload_n 0, 1) := by decide +kernel
theorem dX10_box_37 : decode cX10_box 37 = .ok (.iload_n 1, 1) := by decide +kernel
theorem dX10_box_38 : decode cX10_box 38 = .ok (.iload_n 2, 1) := by decide +kernel
theorem dX10_box_39 : decode cX10_box 39 = .ok (.iload_n 3, 1) := by decide +kernel
theorem dX10_box_40 : decode cX10_box 40 = .ok (.invokevirtual 269, 3) := by decide +kernel
theorem dX10_box_43 : decode cX10_box 43 = .ok (.invokevirtual 273, 3) := by decide +kernel
theorem dX10_box_46 : decode cX10_box 46 = .ok (.ifCond .ne 7, 3) := by decide +kernel
theorem dX10_box_49 : decode cX10_box 49 = .ok (.iconst 1, 1) := by decide +kernel
theorem dX10_box_50 : decode cX10_box 50 = .ok (.goto 4, 3) := by decide +kernel
theorem dX10_box_53 : decode cX10_box 53 = .ok (.iconst 0, 1) := by decide +kernel
theorem dX10_box_54 : decode cX10_box 54 = .ok (.iconst 5, 1) := by decide +kernel
theorem dX10_box_55 : decode cX10_box 55 = .ok (.invokevirtual 84, 3) := by decide +kernel
theorem dX10_box_58 : decode cX10_box 58 = .ok (.ifCond .eq 6, 3) := by decide +kernel
theorem dX10_box_61 : decode cX10_box 61 = .ok (.ldc 122, 2) := by decide +kernel
theorem dX10_box_63 : decode cX10_box 63 = .ok (.ireturn, 1) := by decide +kernel
theorem dX10_box_64 : decode cX10_box 64 = .ok (.aload_n 0, 1) := by decide +kernel
theorem dX10_box_65 : decode cX10_box 65 = .ok (.getfield 47, 3) := by decide +kernel
theorem dX10_box_68 : decode cX10_box 68 = .ok (.iload 4, 2) := by decide +kernel
theorem dX10_box_70 : decode cX10_box 70 = .ok (.invokevirtual 276, 3) := by decide +kernel
theorem dX10_box_73 : decode cX10_box 73 = .ok (.ireturn, 1) := by decide +kernel
theorem dX10_area_0 : decode cX10_area 0 = .ok (.aload_n 0, 1) := by decide +kernel
theorem dX10_area_1 : decode cX10_area 1 = .ok (.aload_n 0, 1) := by decide +kernel
theorem dX10_area_2 : decode cX10_area 2 = .ok (.iload_n 1, 1) := by decide +kernel
theorem dX10_area_3 : decode cX10_area 3 = .ok (.iload_n 2, 1) := by decide +kernel
theorem dX10_area_4 : decode cX10_area 4 = .ok (.iload_n 3, 1) := by decide +kernel
theorem dX10_area_5 : decode cX10_area 5 = .ok (.invokevirtual 266, 3) := by decide +kernel
theorem dX10_area_8 : decode cX10_area 8 = .ok (.iconst 1, 1) := by decide +kernel
theorem dX10_area_9 : decode cX10_area 9 = .ok (.invokevirtual 84, 3) := by decide +kernel
theorem dX10_area_12 : decode cX10_area 12 = .ok (.ifCond .eq 7, 3) := by decide +kernel
theorem dX10_area_15 : decode cX10_area 15 = .ok (.ldc2_w 194, 3) := by decide +kernel
theorem dX10_area_18 : decode cX10_area 18 = .ok (.lreturn, 1) := by decide +kernel
theorem dX10_area_19 : decode cX10_area 19 = .ok (.aload_n 0, 1) := by decide +kernel
theorem dX10_area_20 : decode cX10_area 20 = .ok (.iload_n 1, 1) := by decide +kernel
theorem dX10_area_21 : decode cX10_area 21 = .ok (.iload_n 2, 1) := by decide +kernel
theorem dX10_area_22 : decode cX10_area 22 = .ok (.iload_n 3, 1) := by decide +kernel
theorem dX10_area_23 : decode cX10_area 23 = .ok (.invokevirtual 269, 3) := by decide +kernel
theorem dX10_area_26 : decode cX10_area 26 = .ok (.invokevirtual 279, 3) := by decide +kernel
theorem dX10_area_29 : decode cX10_area 29 = .ok (.lreturn, 1) := by decide +kernel
theorem dX10_crossings_0 : decode cX10_crossings 0 = .ok (.aload_n 0, 1) := by decide +kernel
theorem dX10_crossings_1 : decode cX10_crossings 1 = .ok (.aload_n 0, 1) := by decide +kernel
theorem dX10_crossings_2 : decode cX10_crossings 2 = .ok (.iload_n 1, 1) := by decide +kernel
theorem dX10_crossings_3 : decode cX10_crossings 3 = .ok (.iload_n 2, 1) := by decide +kernel
theorem dX10_crossings_4 : decode cX10_crossings 4 = .ok (.iload_n 3, 1) := by decide +kernel
theorem dX10_crossings_5 : decode cX10_crossings 5 = .ok (.invokevirtual 266, 3) := by decide +kernel
theorem dX10_crossings_8 : decode cX10_crossings 8 = .ok (.iconst 1, 1) := by decide +kernel
theorem dX10_crossings_9 : decode cX10_crossings 9 = .ok (.invokevirtual 84, 3) := by decide +kernel
theorem dX10_crossings_12 : decode cX10_crossings 12 = .ok (.ifCond .eq 5, 3) := by decide +kernel
theorem dX10_crossings_15 : decode cX10_crossings 15 = .ok (.iconst (-1), 1) := by decide +kernel
theorem dX10_crossings_16 : decode cX10_crossings 16 = .ok (.ireturn, 1) := by decide +kernel
theorem dX10_crossings_17 : decode cX10_crossings 17 = .ok (.aload_n 0, 1) := by decide +kernel
theorem dX10_crossings_18 : decode cX10_crossings 18 = .ok (.iload_n 1, 1) := by decide +kernel
theorem dX10_crossings_19 : decode cX10_crossings 19 = .ok (.iload_n 2, 1) := by decide +kernel
theorem dX10_crossings_20 : decode cX10_crossings 20 = .ok (.iload_n 3, 1) := by decide +kernel
theorem dX10_crossings_21 : decode cX10_crossings 21 = .ok (.invokevirtual 269, 3) := by decide +kernel
theorem dX10_crossings_24 : decode cX10_crossings 24 = .ok (.invokevirtual 282, 3) := by decide +kernel
theorem dX10_crossings_27 : decode cX10_crossings 27 = .ok (.ireturn, 1) := by decide +kernel
theorem dX10_hull_0 : decode cX10_hull 0 = .ok (.aload_n 0, 1) := by decide +kernel
theorem dX10_hull_1 : decode cX10_hull 1 = .ok (.aload_n 0, 1) := by decide +kernel
theorem dX10_hull_2 : decode cX10_hull 2 = .ok (.iload_n 1, 1) := by decide +kernel
theorem dX10_hull_3 : decode cX10_hull 3 = .ok (.iload_n 2, 1) := by decide +kernel
theorem dX10_hull_4 : decode cX10_hull 4 = .ok (.iload_n 3, 1) := by decide +kernel
theorem dX10_hull_5 : decode cX10_hull 5 = .ok (.invokevirtual 266, 3) := by decide +kernel
theorem dX10_hull_8 : decode cX10_hull 8 = .ok (.iconst 1, 1) := by decide +kernel
theorem dX10_hull_9 : decode cX10_hull 9 = .ok (.invokevirtual 84, 3) := by decide +kernel
theorem dX10_hull_12 : decode cX10_hull 12 = .ok (.ifCond .eq 5, 3) := by decide +kernel
theorem dX10_hull_15 : decode cX10_hull 15 = .ok (.iconst (-1), 1) := by decide +kernel
theorem dX10_hull_16 : decode cX10_hull 16 = .ok (.ireturn, 1) := by decide +kernel
theorem dX10_hull_17 : decode cX10_hull 17 = .ok (.aload_n 0, 1) := by decide +kernel
theorem dX10_hull_18 : decode cX10_hull 18 = .ok (.iload_n 1, 1) := by decide +kernel
theorem dX10_hull_19 : decode cX10_hull 19 = .ok (.iload_n 2, 1) := by decide +kernel
theorem dX10_hull_20 : decode cX10_hull 20 = .ok (.iload_n 3, 1) := by decide +kernel
theorem dX10_hull_21 : decode cX10_hull 21 = .ok (.invokevirtual 269, 3) := by decide +kernel
theorem dX10_hull_24 : decode cX10_hull 24 = .ok (.invokevirtual 285, 3) := by decide +kernel
theorem dX10_hull_27 : decode cX10_hull 27 = .ok (.ireturn, 1) := by decide +kernel
theorem dX10_corner_0 : decode cX10_corner 0 = .ok (.aload_n 0, 1) := by decide +kernel
theorem dX10_corner_1 : decode cX10_corner 1 = .ok (.aload_n 0, 1) := by decide +kernel
theorem dX10_corner_2 : decode cX10_corner 2 = .ok (.iload_n 1, 1) := by decide +kernel
theorem dX10_corner_3 : decode cX10_corner 3 = .ok (.iload_n 2, 1) := by decide +kernel
theorem dX10_corner_4 : decode cX10_corner 4 = .ok (.iload_n 3, 1) := by decide +kernel
theorem dX10_corner_5 : decode cX10_corner 5 = .ok (.invokevirtual 266, 3) := by decide +kernel
theorem dX10_corner_8 : decode cX10_corner 8 = .ok (.iconst 1, 1) := by decide +kernel
theorem dX10_corner_9 : decode cX10_corner 9 = .ok (.invokevirtual 84, 3) := by decide +kernel
theorem dX10_corner_12 : decode cX10_corner 12 = .ok (.ifCond .eq 5, 3) := by decide +kernel
theorem dX10_corner_15 : decode cX10_corner 15 = .ok (.iconst (-1), 1) := by decide +kernel
theorem dX10_corner_16 : decode cX10_corner 16 = .ok (.ireturn, 1) := by decide +kernel
theorem dX10_corner_17 : decode cX10_corner 17 = .ok (.aload_n 0, 1) := by decide +kernel
theorem dX10_corner_18 : decode cX10_corner 18 = .ok (.iload_n 1, 1) := by decide +kernel
theorem dX10_corner_19 : decode cX10_corner 19 = .ok (.iload_n 2, 1) := by decide +kernel
theorem dX10_corner_20 : decode cX10_corner 20 = .ok (.iload_n 3, 1) := by decide +kernel
theorem dX10_corner_21 : decode cX10_corner 21 = .ok (.invokevirtual 269, 3) := by decide +kernel
theorem dX10_corner_24 : decode cX10_corner 24 = .ok (.invokevirtual 285, 3) := by decide +kernel
theorem dX10_corner_27 : decode cX10_corner 27 = .ok (.istore 5, 2) := by decide +kernel
theorem dX10_corner_29 : decode cX10_corner 29 = .ok (.aload_n 0, 1) := by decide +kernel
theorem dX10_corner_30 : decode cX10_corner 30 = .ok (.iload 4, 2) := by decide +kernel
theorem dX10_corner_32 : decode cX10_corner 32 = .ok (.iload 5, 2) := by decide +kernel
theorem dX10_corner_34 : decode cX10_corner 34 = .ok (.invokestatic 118, 3) := by decide +kernel
theorem dX10_corner_37 : decode cX10_corner 37 = .ok (.iconst 1, 1) := by decide +kernel
theorem dX10_corner_38 : decode cX10_corner 38 = .ok (.invokevirtual 84, 3) := by decide +kernel
theorem dX10_corner_41 : decode cX10_corner 41 = .ok (.ifCond .eq 5, 3) := by decide +kernel
theorem dX10_corner_44 : decode cX10_corner 44 = .ok (.iconst (-1), 1) := by decide +kernel
theorem dX10_corner_45 : decode cX10_corner 45 = .ok (.ireturn, 1) := by decide +kernel
theorem dX10_corner_46 : decode cX10_corner 46 = .ok (.aload_n 0, 1) := by decide +kernel
theorem dX10_corner_47 : decode cX10_corner 47 = .ok (.getfield 47, 3) := by decide +kernel
theorem dX10_corner_50 : decode cX10_corner 50 = .ok (.iload 4, 2) := by decide +kernel
theorem dX10_corner_52 : decode cX10_corner 52 = .ok (.invokevirtual 288, 3) := by decide +kernel
theorem dX10_corner_55 : decode cX10_corner 55 = .ok (.ireturn, 1) := by decide +kernel
theorem dX10_hullArea_0 : decode cX10_hullArea 0 = .ok (.aload_n 0, 1) := by decide +kernel
theorem dX10_hullArea_1 : decode cX10_hullArea 1 = .ok (.aload_n 0, 1) := by decide +kernel
theorem dX10_hullArea_2 : decode cX10_hullArea 2 = .ok (.iload_n 1, 1) := by decide +kernel
theorem dX10_hullArea_3 : decode cX10_hullArea 3 = .ok (.iload_n 2, 1) := by decide +kernel
theorem dX10_hullArea_4 : decode cX10_hullArea 4 = .ok (.iload_n 3, 1) := by decide +kernel
theorem dX10_hullArea_5 : decode cX10_hullArea 5 = .ok (.invokevirtual 266, 3) := by decide +kernel
theorem dX10_hullArea_8 : decode cX10_hullArea 8 = .ok (.iconst 1, 1) := by decide +kernel
theorem dX10_hullArea_9 : decode cX10_hullArea 9 = .ok (.invokevirtual 84, 3) := by decide +kernel
theorem dX10_hullArea_12 : decode cX10_hullArea 12 = .ok (.ifCond .eq 7, 3) := by decide +kernel
theorem dX10_hullArea_15 : decode cX10_hullArea 15 = .ok (.ldc2_w 179, 3) := by decide +kernel
theorem dX10_hullArea_18 : decode cX10_hullArea 18 = .ok (.lreturn, 1) := by decide +kernel
theorem dX10_hullArea_19 : decode cX10_hullArea 19 = .ok (.aload_n 0, 1) := by decide +kernel
theorem dX10_hullArea_20 : decode cX10_hullArea 20 = .ok (.iload_n 1, 1) := by decide +kernel
theorem dX10_hullArea_21 : decode cX10_hullArea 21 = .ok (.iload_n 2, 1) := by decide +kernel
theorem dX10_hullArea_22 : decode cX10_hullArea 22 = .ok (.iload_n 3, 1) := by decide +kernel
theorem dX10_hullArea_23 : decode cX10_hullArea 23 = .ok (.invokevirtual 269, 3) := by decide +kernel
theorem dX10_hullArea_26 : decode cX10_hullArea 26 = .ok (.invokevirtual 285, 3) := by decide +kernel
theorem dX10_hullArea_29 : decode cX10_hullArea 29 = .ok (.pop, 1) := by decide +kernel
theorem dX10_hullArea_30 : decode cX10_hullArea 30 = .ok (.aload_n 0, 1) := by decide +kernel
theorem dX10_hullArea_31 : decode cX10_hullArea 31 = .ok (.getfield 47, 3) := by decide +kernel
theorem dX10_hullArea_34 : decode cX10_hullArea 34 = .ok (.invokevirtual 291, 3) := by decide +kernel
theorem dX10_hullArea_37 : decode cX10_hullArea 37 = .ok (.lreturn, 1) := by decide +kernel
theorem dX10_straight_0 : decode cX10_straight 0 = .ok (.aload_n 0, 1) := by decide +kernel
theorem dX10_straight_1 : decode cX10_straight 1 = .ok (.iload_n 1, 1) := by decide +kernel
theorem dX10_straight_2 : decode cX10_straight 2 = .ok (.iload_n 2, 1) := by decide +kernel
theorem dX10_straight_3 : decode cX10_straight 3 = .ok (.iload_n 3, 1) := by decide +kernel
theorem dX10_straight_4 : decode cX10_straight 4 = .ok (.iload 4, 2) := by decide +kernel
theorem dX10_straight_6 : decode cX10_straight 6 = .ok (.invokevirtual 294, 3) := by decide +kernel
theorem dX10_straight_9 : decode cX10_straight 9 = .ok (.ifCond .eq 7, 3) := by decide +kernel
theorem dX10_straight_12 : decode cX10_straight 12 = .ok (.iconst (-1), 1) := by decide +kernel
theorem dX10_straight_13 : decode cX10_straight 13 = .ok (.goto 10, 3) := by decide +kernel
theorem dX10_straight_16 : decode cX10_straight 16 = .ok (.aload_n 0, 1) := by decide +kernel
theorem dX10_straight_17 : decode cX10_straight 17 = .ok (.getfield 47, 3) := by decide +kernel
theorem dX10_straight_20 : decode cX10_straight 20 = .ok (.invokevirtual 298, 3) := by decide +kernel
theorem dX10_straight_23 : decode cX10_straight 23 = .ok (.ireturn, 1) := by decide +kernel
theorem dX10_straightFrom_0 : decode cX10_straightFrom 0 = .ok (.aload_n 0, 1) := by decide +kernel
theorem dX10_straightFrom_1 : decode cX10_straightFrom 1 = .ok (.iload_n 1, 1) := by decide +kernel
theorem dX10_straightFrom_2 : decode cX10_straightFrom 2 = .ok (.iload_n 2, 1) := by decide +kernel
theorem dX10_straightFrom_3 : decode cX10_straightFrom 3 = .ok (.iload_n 3, 1) := by decide +kernel
theorem dX10_straightFrom_4 : decode cX10_straightFrom 4 = .ok (.iload 4, 2) := by decide +kernel
theorem dX10_straightFrom_6 : decode cX10_straightFrom 6 = .ok (.invokevirtual 294, 3) := by decide +kernel
theorem dX10_straightFrom_9 : decode cX10_straightFrom 9 = .ok (.ifCond .eq 7, 3) := by decide +kernel
theorem dX10_straightFrom_12 : decode cX10_straightFrom 12 = .ok (.iconst (-1), 1) := by decide +kernel
theorem dX10_straightFrom_13 : decode cX10_straightFrom 13 = .ok (.goto 10, 3) := by decide +kernel
theorem dX10_straightFrom_16 : decode cX10_straightFrom 16 = .ok (.aload_n 0, 1) := by decide +kernel
theorem dX10_straightFrom_17 : decode cX10_straightFrom 17 = .ok (.getfield 47, 3) := by decide +kernel
theorem dX10_straightFrom_20 : decode cX10_straightFrom 20 = .ok (.invokevirtual 301, 3) := by decide +kernel
theorem dX10_straightFrom_23 : decode cX10_straightFrom 23 = .ok (.ireturn, 1) := by decide +kernel
theorem dX10_near_0 : decode cX10_near 0 = .ok (.aload_n 0, 1) := by decide +kernel
theorem dX10_near_1 : decode cX10_near 1 = .ok (.aload_n 0, 1) := by decide +kernel
theorem dX10_near_2 : decode cX10_near 2 = .ok (.iload_n 1, 1) := by decide +kernel
theorem dX10_near_3 : decode cX10_near 3 = .ok (.iload_n 2, 1) := by decide +kernel
theorem dX10_near_4 : decode cX10_near 4 = .ok (.iload_n 3, 1) := by decide +kernel
theorem dX10_near_5 : decode cX10_near 5 = .ok (.invokevirtual 266, 3) := by decide +kernel
theorem dX10_near_8 : decode cX10_near 8 = .ok (.ifCond .eq 20, 3) := by decide +kernel
theorem dX10_near_11 : decode cX10_near 11 = .ok (.aload_n 0, 1) := by decide +kernel
theorem dX10_near_12 : decode cX10_near 12 = .ok (.getfield 23, 3) := by decide +kernel
theorem dX10_near_15 : decode cX10_near 15 = .ok (.iconst 2, 1) := by decide +kernel
theorem dX10_near_16 : decode cX10_near 16 = .ok (.iload 4, 2) := by decide +kernel
theorem dX10_near_18 : decode cX10_near 18 = .ok (.invokevirtual 264, 3) := by decide +kernel
theorem dX10_near_21 : decode cX10_near 21 = .ok (.ifCond .eq 7, 3) := by decide +kernel
theorem dX10_near_24 : decode cX10_near 24 = .ok (.iconst 1, 1) := by decide +kernel
theorem dX10_near_25 : decode cX10_near 25 = .ok (.goto 4, 3) := by decide +kernel
theorem dX10_near_28 : decode cX10_near 28 = .ok (.iconst 0, 1) := by decide +kernel
theorem dX10_near_29 : decode cX10_near 29 = .ok (.iconst 1, 1) := by decide +kernel
theorem dX10_near_30 : decode cX10_near 30 = .ok (.invokevirtual 84, 3) := by decide +kernel
theorem dX10_near_33 : decode cX10_near 33 = .ok (.ifCond .eq 5, 3) := by decide +kernel
theorem dX10_near_36 : decode cX10_near 36 = .ok (.iconst (-1), 1) := by decide +kernel
theorem dX10_near_37 : decode cX10_near 37 = .ok (.ireturn, 1) := by decide +kernel
theorem dX10_near_38 : decode cX10_near 38 = .ok (.aload_n 0, 1) := by decide +kernel
theorem dX10_near_39 : decode cX10_near 39 = .ok (.iload 5, 2) := by decide +kernel
theorem dX10_near_41 : decode cX10_near 41 = .ok (.aload_n 0, 1) := by decide +kernel
theorem dX10_near_42 : decode cX10_near 42 = .ok (.iload_n 1, 1) := by decide +kernel
theorem dX10_near_43 : decode cX10_near 43 = .ok (.iload_n 2, 1) := by decide +kernel
theorem dX10_near_44 : decode cX10_near 44 = .ok (.iload_n 3, 1) := by decide +kernel
theorem dX10_near_45 : decode cX10_near 45 = .ok (.invokevirtual 269, 3) := by decide +kernel
theorem dX10_near_48 : decode cX10_near 48 = .ok (.invokevirtual 304, 3) := by decide +kernel
theorem dX10_near_51 : decode cX10_near 51 = .ok (.invokestatic 118, 3) := by decide +kernel
theorem dX10_near_54 : decode cX10_near 54 = .ok (.iconst 1, 1) := by decide +kernel
theorem dX10_near_55 : decode cX10_near 55 = .ok (.invokevirtual 84, 3) := by decide +kernel
theorem dX10_near_58 : decode cX10_near 58 = .ok (.ifCond .eq 5, 3) := by decide +kernel
theorem dX10_near_61 : decode cX10_near 61 = .ok (.iconst (-1), 1) := by decide +kernel
theorem dX10_near_62 : decode cX10_near 62 = .ok (.ireturn, 1) := by decide +kernel
theorem dX10_near_63 : decode cX10_near 63 = .ok (.aload_n 0, 1) := by decide +kernel
theorem dX10_near_64 : decode cX10_near 64 = .ok (.getfield 47, 3) := by decide +kernel
theorem dX10_near_67 : decode cX10_near 67 = .ok (.aload_n 0, 1) := by decide +kernel
theorem dX10_near_68 : decode cX10_near 68 = .ok (.getfield 23, 3) := by decide +kernel
theorem dX10_near_71 : decode cX10_near 71 = .ok (.iconst 2, 1) := by decide +kernel
theorem dX10_near_72 : decode cX10_near 72 = .ok (.iload 4, 2) := by decide +kernel
theorem dX10_near_74 : decode cX10_near 74 = .ok (.iconst 0, 1) := by decide +kernel
theorem dX10_near_75 : decode cX10_near 75 = .ok (.invokevirtual 136, 3) := by decide +kernel
theorem dX10_near_78 : decode cX10_near 78 = .ok (.aload_n 0, 1) := by decide +kernel
theorem dX10_near_79 : decode cX10_near 79 = .ok (.getfield 23, 3) := by decide +kernel
theorem dX10_near_82 : decode cX10_near 82 = .ok (.iconst 2, 1) := by decide +kernel
theorem dX10_near_83 : decode cX10_near 83 = .ok (.iload 4, 2) := by decide +kernel
theorem dX10_near_85 : decode cX10_near 85 = .ok (.iconst 1, 1) := by decide +kernel
theorem dX10_near_86 : decode cX10_near 86 = .ok (.invokevirtual 136, 3) := by decide +kernel
theorem dX10_near_89 : decode cX10_near 89 = .ok (.iload 5, 2) := by decide +kernel
theorem dX10_near_91 : decode cX10_near 91 = .ok (.invokevirtual 305, 3) := by decide +kernel
theorem dX10_near_94 : decode cX10_near 94 = .ok (.ireturn, 1) := by decide +kernel
theorem dX10_miss_0 : decode cX10_miss 0 = .ok (.aload_n 0, 1) := by decide +kernel
theorem dX10_miss_1 : decode cX10_miss 1 = .ok (.aload_n 0, 1) := by decide +kernel
theorem dX10_miss_2 : decode cX10_miss 2 = .ok (.iload_n 1, 1) := by decide +kernel
theorem dX10_miss_3 : decode cX10_miss 3 = .ok (.iload_n 2, 1) := by decide +kernel
theorem dX10_miss_4 : decode cX10_miss 4 = .ok (.iload_n 3, 1) := by decide +kernel
theorem dX10_miss_5 : decode cX10_miss 5 = .ok (.invokevirtual 266, 3) := by decide +kernel
theorem dX10_miss_8 : decode cX10_miss 8 = .ok (.ifCond .eq 20, 3) := by decide +kernel
theorem dX10_miss_11 : decode cX10_miss 11 = .ok (.aload_n 0, 1) := by decide +kernel
theorem dX10_miss_12 : decode cX10_miss 12 = .ok (.getfield 23, 3) := by decide +kernel
theorem dX10_miss_15 : decode cX10_miss 15 = .ok (.iconst 2, 1) := by decide +kernel
theorem dX10_miss_16 : decode cX10_miss 16 = .ok (.iload 4, 2) := by decide +kernel
theorem dX10_miss_18 : decode cX10_miss 18 = .ok (.invokevirtual 264, 3) := by decide +kernel
theorem dX10_miss_21 : decode cX10_miss 21 = .ok (.ifCond .eq 7, 3) := by decide +kernel
theorem dX10_miss_24 : decode cX10_miss 24 = .ok (.iconst 1, 1) := by decide +kernel
theorem dX10_miss_25 : decode cX10_miss 25 = .ok (.goto 4, 3) := by decide +kernel
theorem dX10_miss_28 : decode cX10_miss 28 = .ok (.iconst 0, 1) := by decide +kernel
theorem dX10_miss_29 : decode cX10_miss 29 = .ok (.iconst 1, 1) := by decide +kernel
theorem dX10_miss_30 : decode cX10_miss 30 = .ok (.invokevirtual 84, 3) := by decide +kernel
theorem dX10_miss_33 : decode cX10_miss 33 = .ok (.ifCond .eq 5, 3) := by decide +kernel
theorem dX10_miss_36 : decode cX10_miss 36 = .ok (.iconst (-1), 1) := by decide +kernel
theorem dX10_miss_37 : decode cX10_miss 37 = .ok (.ireturn, 1) := by decide +kernel
theorem dX10_miss_38 : decode cX10_miss 38 = .ok (.aload_n 0, 1) := by decide +kernel
theorem dX10_miss_39 : decode cX10_miss 39 = .ok (.aload_n 0, 1) := by decide +kernel
theorem dX10_miss_40 : decode cX10_miss 40 = .ok (.iload_n 1, 1) := by decide +kernel
theorem dX10_miss_41 : decode cX10_miss 41 = .ok (.iload_n 2, 1) := by decide +kernel
theorem dX10_miss_42 : decode cX10_miss 42 = .ok (.iload_n 3, 1) := by decide +kernel
theorem dX10_miss_43 : decode cX10_miss 43 = .ok (.invokevirtual 269, 3) := by decide +kernel
theorem dX10_miss_46 : decode cX10_miss 46 = .ok (.invokevirtual 273, 3) := by decide +kernel
theorem dX10_miss_49 : decode cX10_miss 49 = .ok (.ifCond .ne 7, 3) := by decide +kernel
theorem dX10_miss_52 : decode cX10_miss 52 = .ok (.iconst 1, 1) := by decide +kernel
theorem dX10_miss_53 : decode cX10_miss 53 = .ok (.goto 4, 3) := by decide +kernel
theorem dX10_miss_56 : decode cX10_miss 56 = .ok (.iconst 0, 1) := by decide +kernel
theorem dX10_miss_57 : decode cX10_miss 57 = .ok (.iconst 5, 1) := by decide +kernel
theorem dX10_miss_58 : decode cX10_miss 58 = .ok (.invokevirtual 84, 3) := by decide +kernel
theorem dX10_miss_61 : decode cX10_miss 61 = .ok (.ifCond .eq 5, 3) := by decide +kernel
theorem dX10_miss_64 : decode cX10_miss 64 = .ok (.iconst (-1), 1) := by decide +kernel
theorem dX10_miss_65 : decode cX10_miss 65 = .ok (.ireturn, 1) := by decide +kernel
theorem dX10_miss_66 : decode cX10_miss 66 = .ok (.aload_n 0, 1) := by decide +kernel
theorem dX10_miss_67 : decode cX10_miss 67 = .ok (.getfield 47, 3) := by decide +kernel
theorem dX10_miss_70 : decode cX10_miss 70 = .ok (.aload_n 0, 1) := by decide +kernel
theorem dX10_miss_71 : decode cX10_miss 71 = .ok (.getfield 23, 3) := by decide +kernel
theorem dX10_miss_74 : decode cX10_miss 74 = .ok (.iconst 2, 1) := by decide +kernel
theorem dX10_miss_75 : decode cX10_miss 75 = .ok (.iload 4, 2) := by decide +kernel
theorem dX10_miss_77 : decode cX10_miss 77 = .ok (.iconst 0, 1) := by decide +kernel
theorem dX10_miss_78 : decode cX10_miss 78 = .ok (.invokevirtual 136, 3) := by decide +kernel
theorem dX10_miss_81 : decode cX10_miss 81 = .ok (.aload_n 0, 1) := by decide +kernel
theorem dX10_miss_82 : decode cX10_miss 82 = .ok (.getfield 23, 3) := by decide +kernel
theorem dX10_miss_85 : decode cX10_miss 85 = .ok (.iconst 2, 1) := by decide +kernel
theorem dX10_miss_86 : decode cX10_miss 86 = .ok (.iload 4, 2) := by decide +kernel
theorem dX10_miss_88 : decode cX10_miss 88 = .ok (.iconst 1, 1) := by decide +kernel
theorem dX10_miss_89 : decode cX10_miss 89 = .ok (.invokevirtual 136, 3) := by decide +kernel
theorem dX10_miss_92 : decode cX10_miss 92 = .ok (.invokevirtual 308, 3) := by decide +kernel
theorem dX10_miss_95 : decode cX10_miss 95 = .ok (.ireturn, 1) := by decide +kernel
theorem dX10_met_0 : decode cX10_met 0 = .ok (.aload_n 0, 1) := by decide +kernel
theorem dX10_met_1 : decode cX10_met 1 = .ok (.aload_n 0, 1) := by decide +kernel
theorem dX10_met_2 : decode cX10_met 2 = .ok (.iload_n 1, 1) := by decide +kernel
theorem dX10_met_3 : decode cX10_met 3 = .ok (.iload_n 2, 1) := by decide +kernel
theorem dX10_met_4 : decode cX10_met 4 = .ok (.iload_n 3, 1) := by decide +kernel
theorem dX10_met_5 : decode cX10_met 5 = .ok (.invokevirtual 266, 3) := by decide +kernel
theorem dX10_met_8 : decode cX10_met 8 = .ok (.ifCond .eq 20, 3) := by decide +kernel
theorem dX10_met_11 : decode cX10_met 11 = .ok (.aload_n 0, 1) := by decide +kernel
theorem dX10_met_12 : decode cX10_met 12 = .ok (.getfield 23, 3) := by decide +kernel
theorem dX10_met_15 : decode cX10_met 15 = .ok (.iconst 2, 1) := by decide +kernel
theorem dX10_met_16 : decode cX10_met 16 = .ok (.iload 4, 2) := by decide +kernel
theorem dX10_met_18 : decode cX10_met 18 = .ok (.invokevirtual 264, 3) := by decide +kernel
theorem dX10_met_21 : decode cX10_met 21 = .ok (.ifCond .eq 7, 3) := by decide +kernel
theorem dX10_met_24 : decode cX10_met 24 = .ok (.iconst 1, 1) := by decide +kernel
theorem dX10_met_25 : decode cX10_met 25 = .ok (.goto 4, 3) := by decide +kernel
theorem dX10_met_28 : decode cX10_met 28 = .ok (.iconst 0, 1) := by decide +kernel
theorem dX10_met_29 : decode cX10_met 29 = .ok (.iconst 1, 1) := by decide +kernel
theorem dX10_met_30 : decode cX10_met 30 = .ok (.invokevirtual 84, 3) := by decide +kernel
theorem dX10_met_33 : decode cX10_met 33 = .ok (.ifCond .eq 5, 3) := by decide +kernel
theorem dX10_met_36 : decode cX10_met 36 = .ok (.iconst (-1), 1) := by decide +kernel
theorem dX10_met_37 : decode cX10_met 37 = .ok (.ireturn, 1) := by decide +kernel
theorem dX10_met_38 : decode cX10_met 38 = .ok (.aload_n 0, 1) := by decide +kernel
theorem dX10_met_39 : decode cX10_met 39 = .ok (.iload_n 1, 1) := by decide +kernel
theorem dX10_met_40 : decode cX10_met 40 = .ok (.invokevirtual 140, 3) := by decide +kernel
theorem dX10_met_43 : decode cX10_met 43 = .ok (.pop, 1) := by decide +kernel
theorem dX10_met_44 : decode cX10_met 44 = .ok (.aload_n 0, 1) := by decide +kernel
theorem dX10_met_45 : decode cX10_met 45 = .ok (.getfield 23, 3) := by decide +kernel
theorem dX10_met_48 : decode cX10_met 48 = .ok (.iconst 2, 1) := by decide +kernel
theorem dX10_met_49 : decode cX10_met 49 = .ok (.iload 4, 2) := by decide +kernel
theorem dX10_met_51 : decode cX10_met 51 = .ok (.iconst 0, 1) := by decide +kernel
theorem dX10_met_52 : decode cX10_met 52 = .ok (.invokevirtual 136, 3) := by decide +kernel
theorem dX10_met_55 : decode cX10_met 55 = .ok (.istore 5, 2) := by decide +kernel
theorem dX10_met_57 : decode cX10_met 57 = .ok (.aload_n 0, 1) := by decide +kernel
theorem dX10_met_58 : decode cX10_met 58 = .ok (.getfield 23, 3) := by decide +kernel
theorem dX10_met_61 : decode cX10_met 61 = .ok (.iconst 2, 1) := by decide +kernel
theorem dX10_met_62 : decode cX10_met 62 = .ok (.iload 4, 2) := by decide +kernel
theorem dX10_met_64 : decode cX10_met 64 = .ok (.iconst 1, 1) := by decide +kernel
theorem dX10_met_65 : decode cX10_met 65 = .ok (.invokevirtual 136, 3) := by decide +kernel
theorem dX10_met_68 : decode cX10_met 68 = .ok (.istore 6, 2) := by decide +kernel
theorem dX10_met_70 : decode cX10_met 70 = .ok (.iconst 0, 1) := by decide +kernel
theorem dX10_met_71 : decode cX10_met 71 = .ok (.istore 7, 2) := by decide +kernel
theorem dX10_met_73 : decode cX10_met 73 = .ok (.iload 7, 2) := by decide +kernel
theorem dX10_met_75 : decode cX10_met 75 = .ok (.bipush 40, 2) := by decide +kernel
theorem dX10_met_77 : decode cX10_met 77 = .ok (.if_icmp .ge 77, 3) := by decide +kernel
theorem dX10_met_80 : decode cX10_met 80 = .ok (.aload_n 0, 1) := by decide +kernel
theorem dX10_met_81 : decode cX10_met 81 = .ok (.getfield 40, 3) := by decide +kernel
theorem dX10_met_84 : decode cX10_met 84 = .ok (.aload_n 0, 1) := by decide +kernel
theorem dX10_met_85 : decode cX10_met 85 = .ok (.getfield 33, 3) := by decide +kernel
theorem dX10_met_88 : decode cX10_met 88 = .ok (.iload 7, 2) := by decide +kernel
theorem dX10_met_90 : decode cX10_met 90 = .ok (.invokevirtual 236, 3) := by decide +kernel
theorem dX10_met_93 : decode cX10_met 93 = .ok (.aload_n 0, 1) := by decide +kernel
theorem dX10_met_94 : decode cX10_met 94 = .ok (.getfield 40, 3) := by decide +kernel
theorem dX10_met_97 : decode cX10_met 97 = .ok (.aload_n 0, 1) := by decide +kernel
theorem dX10_met_98 : decode cX10_met 98 = .ok (.getfield 23, 3) := by decide +kernel
theorem dX10_met_101 : decode cX10_met 101 = .ok (.iconst 1, 1) := by decide +kernel
theorem dX10_met_102 : decode cX10_met 102 = .ok (.iload_n 2, 1) := by decide +kernel
theorem dX10_met_103 : decode cX10_met 103 = .ok (.iconst 0, 1) := by decide +kernel
theorem dX10_met_104 : decode cX10_met 104 = .ok (.invokevirtual 136, 3) := by decide +kernel
theorem dX10_met_107 : decode cX10_met 107 = .ok (.aload_n 0, 1) := by decide +kernel
theorem dX10_met_108 : decode cX10_met 108 = .ok (.getfield 23, 3) := by decide +kernel
theorem dX10_met_111 : decode cX10_met 111 = .ok (.iconst 1, 1) := by decide +kernel
theorem dX10_met_112 : decode cX10_met 112 = .ok (.iload_n 2, 1) := by decide +kernel
theorem dX10_met_113 : decode cX10_met 113 = .ok (.iconst 1, 1) := by decide +kernel
theorem dX10_met_114 : decode cX10_met 114 = .ok (.invokevirtual 136, 3) := by decide +kernel
theorem dX10_met_117 : decode cX10_met 117 = .ok (.iload_n 3, 1) := by decide +kernel
theorem dX10_met_118 : decode cX10_met 118 = .ok (.invokevirtual 206, 3) := by decide +kernel
theorem dX10_met_121 : decode cX10_met 121 = .ok (.aload_n 0, 1) := by decide +kernel
theorem dX10_met_122 : decode cX10_met 122 = .ok (.getfield 40, 3) := by decide +kernel
theorem dX10_met_125 : decode cX10_met 125 = .ok (.invokevirtual 203, 3) := by decide +kernel
theorem dX10_met_128 : decode cX10_met 128 = .ok (.ifCond .eq 20, 3) := by decide +kernel
theorem dX10_met_131 : decode cX10_met 131 = .ok (.aload_n 0, 1) := by decide +kernel
theorem dX10_met_132 : decode cX10_met 132 = .ok (.getfield 40, 3) := by decide +kernel
theorem dX10_met_135 : decode cX10_met 135 = .ok (.iload 5, 2) := by decide +kernel
theorem dX10_met_137 : decode cX10_met 137 = .ok (.iload 6, 2) := by decide +kernel
theorem dX10_met_139 : decode cX10_met 139 = .ok (.invokevirtual 311, 3) := by decide +kernel
theorem dX10_met_142 : decode cX10_met 142 = .ok (.ifCond .eq 6, 3) := by decide +kernel
theorem dX10_met_145 : decode cX10_met 145 = .ok (.iload 7, 2) := by decide +kernel
theorem dX10_met_147 : decode cX10_met 147 = .ok (.ireturn, 1) := by decide +kernel
theorem dX10_met_148 : decode cX10_met 148 = .ok (.iinc 7 1, 3) := by decide +kernel
theorem dX10_met_151 : decode cX10_met 151 = .ok (.goto (-78), 3) := by decide +kernel
theorem dX10_met_154 : decode cX10_met 154 = .ok (.bipush (-2), 2) := by decide +kernel
theorem dX10_met_156 : decode cX10_met 156 = .ok (.ireturn, 1) := by decide +kernel
theorem dX10_best_0 : decode cX10_best 0 = .ok (.aload_n 0, 1) := by decide +kernel
theorem dX10_best_1 : decode cX10_best 1 = .ok (.aload_n 0, 1) := by decide +kernel
theorem dX10_best_2 : decode cX10_best 2 = .ok (.iload_n 1, 1) := by decide +kernel
theorem dX10_best_3 : decode cX10_best 3 = .ok (.invokevirtual 133, 3) := by decide +kernel
theorem dX10_best_6 : decode cX10_best 6 = .ok (.ifCond .eq 15, 3) := by decide +kernel
theorem dX10_best_9 : decode cX10_best 9 = .ok (.iload_n 2, 1) := by decide +kernel
theorem dX10_best_10 : decode cX10_best 10 = .ok (.iconst 2, 1) := by decide +kernel
theorem dX10_best_11 : decode cX10_best 11 = .ok (.invokestatic 118, 3) := by decide +kernel
theorem dX10_best_14 : decode cX10_best 14 = .ok (.ifCond .eq 7, 3) := by decide +kernel
theorem dX10_best_17 : decode cX10_best 17 = .ok (.iconst 1, 1) := by decide +kernel
theorem dX10_best_18 : decode cX10_best 18 = .ok (.goto 4, 3) := by decide +kernel
theorem dX10_best_21 : decode cX10_best 21 = .ok (.iconst 0, 1) := by decide +kernel
theorem dX10_best_22 : decode cX10_best 22 = .ok (.iconst 1, 1) := by decide +kernel
theorem dX10_best_23 : decode cX10_best 23 = .ok (.invokevirtual 84, 3) := by decide +kernel
theorem dX10_best_26 : decode cX10_best 26 = .ok (.ifCond .eq 5, 3) := by decide +kernel
theorem dX10_best_29 : decode cX10_best 29 = .ok (.iconst (-1), 1) := by decide +kernel
theorem dX10_best_30 : decode cX10_best 30 = .ok (.ireturn, 1) := by decide +kernel
theorem dX10_best_31 : decode cX10_best 31 = .ok (.aload_n 0, 1) := by decide +kernel
theorem dX10_best_32 : decode cX10_best 32 = .ok (.getfield 23, 3) := by decide +kernel
theorem dX10_best_35 : decode cX10_best 35 = .ok (.iconst 1, 1) := by decide +kernel
theorem dX10_best_36 : decode cX10_best 36 = .ok (.invokevirtual 102, 3) := by decide +kernel
theorem dX10_best_39 : decode cX10_best 39 = .ok (.ifCond .le 18, 3) := by decide +kernel
theorem dX10_best_42 : decode cX10_best 42 = .ok (.aload_n 0, 1) := by decide +kernel
theorem dX10_best_43 : decode cX10_best 43 = .ok (.getfield 23, 3) := by decide +kernel
theorem dX10_best_46 : decode cX10_best 46 = .ok (.iconst 2, 1) := by decide +kernel
theorem dX10_best_47 : decode cX10_best 47 = .ok (.invokevirtual 102, 3) := by decide +kernel
theorem dX10_best_50 : decode cX10_best 50 = .ok (.ifCond .le 7, 3) := by decide +kernel
theorem dX10_best_53 : decode cX10_best 53 = .ok (.iconst 1, 1) := by decide +kernel
theorem dX10_best_54 : decode cX10_best 54 = .ok (.goto 4, 3) := by decide +kernel
theorem dX10_best_57 : decode cX10_best 57 = .ok (.iconst 0, 1) := by decide +kernel
theorem dX10_best_58 : decode cX10_best 58 = .ok (.istore_n 3, 1) := by decide +kernel
theorem dX10_best_59 : decode cX10_best 59 = .ok (.aload_n 0, 1) := by decide +kernel
theorem dX10_best_60 : decode cX10_best 60 = .ok (.iload_n 3, 1) := by decide +kernel
theorem dX10_best_61 : decode cX10_best 61 = .ok (.ifCond .eq 20, 3) := by decide +kernel
theorem dX10_best_64 : decode cX10_best 64 = .ok (.aload_n 0, 1) := by decide +kernel
theorem dX10_best_65 : decode cX10_best 65 = .ok (.iload_n 1, 1) := by decide +kernel
theorem dX10_best_66 : decode cX10_best 66 = .ok (.iconst 0, 1) := by decide +kernel
theorem dX10_best_67 : decode cX10_best 67 = .ok (.iload_n 2, 1) := by decide +kernel
theorem dX10_best_68 : decode cX10_best 68 = .ok (.invokevirtual 269, 3) := by decide +kernel
theorem dX10_best_71 : decode cX10_best 71 = .ok (.invokevirtual 273, 3) := by decide +kernel
theorem dX10_best_74 : decode cX10_best 74 = .ok (.ifCond .ne 7, 3) := by decide +kernel
theorem dX10_best_77 : decode cX10_best 77 = .ok (.iconst 1, 1) := by decide +kernel
theorem dX10_best_78 : decode cX10_best 78 = .ok (.goto 4, 3) := by decide +kernel
theorem dX10_best_81 : decode cX10_best 81 = .ok (.iconst 0, 1) := by decide +kernel
theorem dX10_best_82 : decode cX10_best 82 = .ok (.iconst 5, 1) := by decide +kernel
theorem dX10_best_83 : decode cX10_best 83 = .ok (.invokevirtual 84, 3) := by decide +kernel
theorem dX10_best_86 : decode cX10_best 86 = .ok (.ifCond .eq 5, 3) := by decide +kernel
theorem dX10_best_89 : decode cX10_best 89 = .ok (.iconst (-1), 1) := by decide +kernel
theorem dX10_best_90 : decode cX10_best 90 = .ok (.ireturn, 1) := by decide +kernel
theorem dX10_best_91 : decode cX10_best 91 = .ok (.iconst 0, 1) := by decide +kernel
theorem dX10_best_92 : decode cX10_best 92 = .ok (.istore 4, 2) := by decide +kernel
theorem dX10_best_94 : decode cX10_best 94 = .ok (.aload_n 0, 1) := by decide +kernel
theorem dX10_best_95 : decode cX10_best 95 = .ok (.iload_n 1, 1) := by decide +kernel
theorem dX10_best_96 : decode cX10_best 96 = .ok (.iconst 0, 1) := by decide +kernel
theorem dX10_best_97 : decode cX10_best 97 = .ok (.iload_n 2, 1) := by decide +kernel
theorem dX10_best_98 : decode cX10_best 98 = .ok (.invokevirtual 314, 3) := by decide +kernel
theorem dX10_best_101 : decode cX10_best 101 = .ok (.istore 5, 2) := by decide +kernel
theorem dX10_best_103 : decode cX10_best 103 = .ok (.iconst 1, 1) := by decide +kernel
theorem dX10_best_104 : decode cX10_best 104 = .ok (.istore 6, 2) := by decide +kernel
theorem dX10_best_106 : decode cX10_best 106 = .ok (.iload 6, 2) := by decide +kernel
theorem dX10_best_108 : decode cX10_best 108 = .ok (.aload_n 0, 1) := by decide +kernel
theorem dX10_best_109 : decode cX10_best 109 = .ok (.getfield 23, 3) := by decide +kernel
theorem dX10_best_112 : decode cX10_best 112 = .ok (.iconst 1, 1) := by decide +kernel
theorem dX10_best_113 : decode cX10_best 113 = .ok (.invokevirtual 102, 3) := by decide +kernel
theorem dX10_best_116 : decode cX10_best 116 = .ok (.if_icmp .ge 34, 3) := by decide +kernel
theorem dX10_best_119 : decode cX10_best 119 = .ok (.aload_n 0, 1) := by decide +kernel
theorem dX10_best_120 : decode cX10_best 120 = .ok (.iload_n 1, 1) := by decide +kernel
theorem dX10_best_121 : decode cX10_best 121 = .ok (.iload 6, 2) := by decide +kernel
theorem dX10_best_123 : decode cX10_best 123 = .ok (.iload_n 2, 1) := by decide +kernel
theorem dX10_best_124 : decode cX10_best 124 = .ok (.invokevirtual 314, 3) := by decide +kernel
theorem dX10_best_127 : decode cX10_best 127 = .ok (.istore 7, 2) := by decide +kernel
theorem dX10_best_129 : decode cX10_best 129 = .ok (.iload 7, 2) := by decide +kernel
theorem dX10_best_131 : decode cX10_best 131 = .ok (.iload 5, 2) := by decide +kernel
theorem dX10_best_133 : decode cX10_best 133 = .ok (.if_icmp .ge 11, 3) := by decide +kernel
theorem dX10_best_136 : decode cX10_best 136 = .ok (.iload 6, 2) := by decide +kernel
theorem dX10_best_138 : decode cX10_best 138 = .ok (.istore 4, 2) := by decide +kernel
theorem dX10_best_140 : decode cX10_best 140 = .ok (.iload 7, 2) := by decide +kernel
theorem dX10_best_142 : decode cX10_best 142 = .ok (.istore 5, 2) := by decide +kernel
theorem dX10_best_144 : decode cX10_best 144 = .ok (.iinc 6 1, 3) := by decide +kernel
theorem dX10_best_147 : decode cX10_best 147 = .ok (.goto (-41), 3) := by decide +kernel
theorem dX10_best_150 : decode cX10_best 150 = .ok (.iload 4, 2) := by decide +kernel
theorem dX10_best_152 : decode cX10_best 152 = .ok (.ireturn, 1) := by decide +kernel
theorem dX10_pair_0 : decode cX10_pair 0 = .ok (.aload_n 0, 1) := by decide +kernel
theorem dX10_pair_1 : decode cX10_pair 1 = .ok (.aload_n 0, 1) := by decide +kernel
theorem dX10_pair_2 : decode cX10_pair 2 = .ok (.getfield 23, 3) := by decide +kernel
theorem dX10_pair_5 : decode cX10_pair 5 = .ok (.iconst 3, 1) := by decide +kernel
theorem dX10_pair_6 : decode cX10_pair 6 = .ok (.iload_n 1, 1) := by decide +kernel
theorem dX10_pair_7 : decode cX10_pair 7 = .ok (.invokevirtual 264, 3) := by decide +kernel
theorem dX10_pair_10 : decode cX10_pair 10 = .ok (.ifCond .eq 15, 3) := by decide +kernel
theorem dX10_pair_13 : decode cX10_pair 13 = .ok (.iload_n 2, 1) := by decide +kernel
theorem dX10_pair_14 : decode cX10_pair 14 = .ok (.iconst 4, 1) := by decide +kernel
theorem dX10_pair_15 : decode cX10_pair 15 = .ok (.invokestatic 118, 3) := by decide +kernel
theorem dX10_pair_18 : decode cX10_pair 18 = .ok (.ifCond .eq 7, 3) := by decide +kernel
theorem dX10_pair_21 : decode cX10_pair 21 = .ok (.iconst 1, 1) := by decide +kernel
theorem dX10_pair_22 : decode cX10_pair 22 = .ok (.goto 4, 3) := by decide +kernel
theorem dX10_pair_25 : decode cX10_pair 25 = .ok (.iconst 0, 1) := by decide +kernel
theorem dX10_pair_26 : decode cX10_pair 26 = .ok (.iconst 1, 1) := by decide +kernel
theorem dX10_pair_27 : decode cX10_pair 27 = .ok (.invokevirtual 84, 3) := by decide +kernel
theorem dX10_pair_30 : decode cX10_pair 30 = .ok (.ifCond .eq 6, 3) := by decide +kernel
theorem dX10_pair_33 : decode cX10_pair 33 = .ok (.ldc 122, 2) := by decide +kernel
theorem dX10_pair_35 : decode cX10_pair 35 = .ok (.ireturn, 1) := by decide +kernel
theorem dX10_pair_36 : decode cX10_pair 36 = .ok (.aload_n 0, 1) := by decide +kernel
theorem dX10_pair_37 : decode cX10_pair 37 = .ok (.getfield 23, 3) := by decide +kernel
theorem dX10_pair_40 : decode cX10_pair 40 = .ok (.iconst 3, 1) := by decide +kernel
theorem dX10_pair_41 : decode cX10_pair 41 = .ok (.iload_n 1, 1) := by decide +kernel
theorem dX10_pair_42 : decode cX10_pair 42 = .ok (.iload_n 2, 1) := by decide +kernel
theorem dX10_pair_43 : decode cX10_pair 43 = .ok (.invokevirtual 136, 3) := by decide +kernel
theorem dX10_pair_46 : decode cX10_pair 46 = .ok (.ireturn, 1) := by decide +kernel
theorem dX10_closing_0 : decode cX10_closing 0 = .ok (.aload_n 0, 1) := by decide +kernel
theorem dX10_closing_1 : decode cX10_closing 1 = .ok (.aload_n 0, 1) := by decide +kernel
theorem dX10_closing_2 : decode cX10_closing 2 = .ok (.iload_n 1, 1) := by decide +kernel
theorem dX10_closing_3 : decode cX10_closing 3 = .ok (.invokevirtual 133, 3) := by decide +kernel
theorem dX10_closing_6 : decode cX10_closing 6 = .ok (.ifCond .eq 19, 3) := by decide +kernel
theorem dX10_closing_9 : decode cX10_closing 9 = .ok (.aload_n 0, 1) := by decide +kernel
theorem dX10_closing_10 : decode cX10_closing 10 = .ok (.getfield 23, 3) := by decide +kernel
theorem dX10_closing_13 : decode cX10_closing 13 = .ok (.iconst 3, 1) := by decide +kernel
theorem dX10_closing_14 : decode cX10_closing 14 = .ok (.iload_n 2, 1) := by decide +kernel
theorem dX10_closing_15 : decode cX10_closing 15 = .ok (.invokevirtual 264, 3) := by decide +kernel
theorem dX10_closing_18 : decode cX10_closing 18 = .ok (.ifCond .eq 7, 3) := by decide +kernel
theorem dX10_closing_21 : decode cX10_closing 21 = .ok (.iconst 1, 1) := by decide +kernel
theorem dX10_closing_22 : decode cX10_closing 22 = .ok (.goto 4, 3) := by decide +kernel
theorem dX10_closing_25 : decode cX10_closing 25 = .ok (.iconst 0, 1) := by decide +kernel
theorem dX10_closing_26 : decode cX10_closing 26 = .ok (.iconst 1, 1) := by decide +kernel
theorem dX10_closing_27 : decode cX10_closing 27 = .ok (.invokevirtual 84, 3) := by decide +kernel
theorem dX10_closing_30 : decode cX10_closing 30 = .ok (.ifCond .eq 7, 3) := by decide +kernel
theorem dX10_closing_33 : decode cX10_closing 33 = .ok (.ldc2_w 194, 3) := by decide +kernel
theorem dX10_closing_36 : decode cX10_closing 36 = .ok (.lreturn, 1) := by decide +kernel
theorem dX10_closing_37 : decode cX10_closing 37 = .ok (.aload_n 0, 1) := by decide +kernel
theorem dX10_closing_38 : decode cX10_closing 38 = .ok (.getfield 54, 3) := by decide +kernel
theorem dX10_closing_41 : decode cX10_closing 41 = .ok (.iload_n 2, 1) := by decide +kernel
theorem dX10_closing_42 : decode cX10_closing 42 = .ok (.aload_n 0, 1) := by decide +kernel
theorem dX10_closing_43 : decode cX10_closing 43 = .ok (.iload_n 1, 1) := by decide +kernel
theorem dX10_closing_44 : decode cX10_closing 44 = .ok (.invokevirtual 140, 3) := by decide +kernel
theorem dX10_closing_47 : decode cX10_closing 47 = .ok (.invokevirtual 317, 3) := by decide +kernel
theorem dX10_closing_50 : decode cX10_closing 50 = .ok (.aload_n 0, 1) := by decide +kernel
theorem dX10_closing_51 : decode cX10_closing 51 = .ok (.getfield 54, 3) := by decide +kernel
theorem dX10_closing_54 : decode cX10_closing 54 = .ok (.iload_n 2, 1) := by decide +kernel
theorem dX10_closing_55 : decode cX10_closing 55 = .ok (.invokevirtual 321, 3) := by decide +kernel
theorem dX10_closing_58 : decode cX10_closing 58 = .ok (.iload_n 3, 1) := by decide +kernel
theorem dX10_closing_59 : decode cX10_closing 59 = .ok (.invokestatic 188, 3) := by decide +kernel
theorem dX10_closing_62 : decode cX10_closing 62 = .ok (.lreturn, 1) := by decide +kernel
theorem dX10_fit_0 : decode cX10_fit 0 = .ok (.aload_n 0, 1) := by decide +kernel
theorem dX10_fit_1 : decode cX10_fit 1 = .ok (.iload_n 1, 1) := by decide +kernel
theorem dX10_fit_2 : decode cX10_fit 2 = .ok (.iconst 3, 1) := by decide +kernel
theorem dX10_fit_3 : decode cX10_fit 3 = .ok (.invokestatic 118, 3) := by decide +kernel
theorem dX10_fit_6 : decode cX10_fit 6 = .ok (.invokevirtual 325, 3) := by decide +kernel
theorem dX10_fit_9 : decode cX10_fit 9 = .ok (.ifCond .eq 7, 3) := by decide +kernel
theorem dX10_fit_12 : decode cX10_fit 12 = .ok (.iconst (-1), 1) := by decide +kernel
theorem dX10_fit_13 : decode cX10_fit 13 = .ok (.goto 11, 3) := by decide +kernel
theorem dX10_fit_16 : decode cX10_fit 16 = .ok (.aload_n 0, 1) := by decide +kernel
theorem dX10_fit_17 : decode cX10_fit 17 = .ok (.getfield 54, 3) := by decide +kernel
theorem dX10_fit_20 : decode cX10_fit 20 = .ok (.iload_n 1, 1) := by decide +kernel
theorem dX10_fit_21 : decode cX10_fit 21 = .ok (.invokevirtual 329, 3) := by decide +kernel
theorem dX10_fit_24 : decode cX10_fit 24 = .ok (.ireturn, 1) := by decide +kernel
theorem dX10_fitMiss_0 : decode cX10_fitMiss 0 = .ok (.aload_n 0, 1) := by decide +kernel
theorem dX10_fitMiss_1 : decode cX10_fitMiss 1 = .ok (.iconst 1, 1) := by decide +kernel
theorem dX10_fitMiss_2 : decode cX10_fitMiss 2 = .ok (.invokevirtual 325, 3) := by decide +kernel
theorem dX10_fitMiss_5 : decode cX10_fitMiss 5 = .ok (.ifCond .eq 7, 3) := by decide +kernel
theorem dX10_fitMiss_8 : decode cX10_fitMiss 8 = .ok (.ldc2_w 179, 3) := by decide +kernel
theorem dX10_fitMiss_11 : decode cX10_fitMiss 11 = .ok (.lreturn, 1) := by decide +kernel
theorem dX10_fitMiss_12 : decode cX10_fitMiss 12 = .ok (.aload_n 0, 1) := by decide +kernel
theorem dX10_fitMiss_13 : decode cX10_fitMiss 13 = .ok (.getfield 54, 3) := by decide +kernel
theorem dX10_fitMiss_16 : decode cX10_fitMiss 16 = .ok (.invokevirtual 332, 3) := by decide +kernel
theorem dX10_fitMiss_19 : decode cX10_fitMiss 19 = .ok (.aload_n 0, 1) := by decide +kernel
theorem dX10_fitMiss_20 : decode cX10_fitMiss 20 = .ok (.getfield 54, 3) := by decide +kernel
theorem dX10_fitMiss_23 : decode cX10_fitMiss 23 = .ok (.invokevirtual 335, 3) := by decide +kernel
theorem dX10_fitMiss_26 : decode cX10_fitMiss 26 = .ok (.iload_n 1, 1) := by decide +kernel
theorem dX10_fitMiss_27 : decode cX10_fitMiss 27 = .ok (.invokestatic 188, 3) := by decide +kernel
theorem dX10_fitMiss_30 : decode cX10_fitMiss 30 = .ok (.lreturn, 1) := by decide +kernel
theorem dX10_three_0 : decode cX10_three 0 = .ok (.aload_n 0, 1) := by decide +kernel
theorem dX10_three_1 : decode cX10_three 1 = .ok (.aload_n 0, 1) := by decide +kernel
theorem dX10_three_2 : decode cX10_three 2 = .ok (.iconst 0, 1) := by decide +kernel
theorem dX10_three_3 : decode cX10_three 3 = .ok (.invokevirtual 133, 3) := by decide +kernel
theorem dX10_three_6 : decode cX10_three 6 = .ok (.ifCond .eq 15, 3) := by decide +kernel
theorem dX10_three_9 : decode cX10_three 9 = .ok (.iload_n 1, 1) := by decide +kernel
theorem dX10_three_10 : decode cX10_three 10 = .ok (.iconst 3, 1) := by decide +kernel
theorem dX10_three_11 : decode cX10_three 11 = .ok (.invokestatic 118, 3) := by decide +kernel
theorem dX10_three_14 : decode cX10_three 14 = .ok (.ifCond .eq 7, 3) := by decide +kernel
theorem dX10_three_17 : decode cX10_three 17 = .ok (.iconst 1, 1) := by decide +kernel
theorem dX10_three_18 : decode cX10_three 18 = .ok (.goto 4, 3) := by decide +kernel
theorem dX10_three_21 : decode cX10_three 21 = .ok (.iconst 0, 1) := by decide +kernel
theorem dX10_three_22 : decode cX10_three 22 = .ok (.iconst 1, 1) := by decide +kernel
theorem dX10_three_23 : decode cX10_three 23 = .ok (.invokevirtual 84, 3) := by decide +kernel
theorem dX10_three_26 : decode cX10_three 26 = .ok (.ifCond .eq 7, 3) := by decide +kernel
theorem dX10_three_29 : decode cX10_three 29 = .ok (.ldc2_w 194, 3) := by decide +kernel
theorem dX10_three_32 : decode cX10_three 32 = .ok (.lreturn, 1) := by decide +kernel
theorem dX10_three_33 : decode cX10_three 33 = .ok (.aload_n 0, 1) := by decide +kernel
theorem dX10_three_34 : decode cX10_three 34 = .ok (.aload_n 0, 1) := by decide +kernel
theorem dX10_three_35 : decode cX10_three 35 = .ok (.getfield 23, 3) := by decide +kernel
theorem dX10_three_38 : decode cX10_three 38 = .ok (.iconst 3, 1) := by decide +kernel
theorem dX10_three_39 : decode cX10_three 39 = .ok (.invokevirtual 102, 3) := by decide +kernel
theorem dX10_three_42 : decode cX10_three 42 = .ok (.iconst 3, 1) := by decide +kernel
theorem dX10_three_43 : decode cX10_three 43 = .ok (.if_icmp .lt 20, 3) := by decide +kernel
theorem dX10_three_46 : decode cX10_three 46 = .ok (.aload_n 0, 1) := by decide +kernel
theorem dX10_three_47 : decode cX10_three 47 = .ok (.getfield 54, 3) := by decide +kernel
theorem dX10_three_50 : decode cX10_three 50 = .ok (.iconst (-1), 1) := by decide +kernel
theorem dX10_three_51 : decode cX10_three 51 = .ok (.invokevirtual 338, 3) := by decide +kernel
theorem dX10_three_54 : decode cX10_three 54 = .ok (.lconst 0, 1) := by decide +kernel
theorem dX10_three_55 : decode cX10_three 55 = .ok (.lcmp, 1) := by decide +kernel
theorem dX10_three_56 : decode cX10_three 56 = .ok (.ifCond .eq 7, 3) := by decide +kernel
theorem dX10_three_59 : decode cX10_three 59 = .ok (.iconst 1, 1) := by decide +kernel
theorem dX10_three_60 : decode cX10_three 60 = .ok (.goto 4, 3) := by decide +kernel
theorem dX10_three_63 : decode cX10_three 63 = .ok (.iconst 0, 1) := by decide +kernel
theorem dX10_three_64 : decode cX10_three 64 = .ok (.iconst 5, 1) := by decide +kernel
theorem dX10_three_65 : decode cX10_three 65 = .ok (.invokevirtual 84, 3) := by decide +kernel
theorem dX10_three_68 : decode cX10_three 68 = .ok (.ifCond .eq 7, 3) := by decide +kernel
theorem dX10_three_71 : decode cX10_three 71 = .ok (.ldc2_w 194, 3) := by decide +kernel
theorem dX10_three_74 : decode cX10_three 74 = .ok (.lreturn, 1) := by decide +kernel
theorem dX10_three_75 : decode cX10_three 75 = .ok (.aload_n 0, 1) := by decide +kernel
theorem dX10_three_76 : decode cX10_three 76 = .ok (.getfield 54, 3) := by decide +kernel
theorem dX10_three_79 : decode cX10_three 79 = .ok (.iload_n 1, 1) := by decide +kernel
theorem dX10_three_80 : decode cX10_three 80 = .ok (.invokevirtual 338, 3) := by decide +kernel
theorem dX10_three_83 : decode cX10_three 83 = .ok (.aload_n 0, 1) := by decide +kernel
theorem dX10_three_84 : decode cX10_three 84 = .ok (.getfield 54, 3) := by decide +kernel
theorem dX10_three_87 : decode cX10_three 87 = .ok (.iconst (-1), 1) := by decide +kernel
theorem dX10_three_88 : decode cX10_three 88 = .ok (.invokevirtual 338, 3) := by decide +kernel
theorem dX10_three_91 : decode cX10_three 91 = .ok (.iload_n 2, 1) := by decide +kernel
theorem dX10_three_92 : decode cX10_three 92 = .ok (.invokestatic 188, 3) := by decide +kernel
theorem dX10_three_95 : decode cX10_three 95 = .ok (.lreturn, 1) := by decide +kernel
theorem dX10_begin_0 : decode cX10_begin 0 = .ok (.aload_n 0, 1) := by decide +kernel
theorem dX10_begin_1 : decode cX10_begin 1 = .ok (.aload_n 0, 1) := by decide +kernel
theorem dX10_begin_2 : decode cX10_begin 2 = .ok (.iload_n 1, 1) := by decide +kernel
theorem dX10_begin_3 : decode cX10_begin 3 = .ok (.iload_n 2, 1) := by decide +kernel
theorem dX10_begin_4 : decode cX10_begin 4 = .ok (.iload_n 3, 1) := by decide +kernel
theorem dX10_begin_5 : decode cX10_begin 5 = .ok (.invokevirtual 199, 3) := by decide +kernel
theorem dX10_begin_8 : decode cX10_begin 8 = .ok (.iconst 1, 1) := by decide +kernel
theorem dX10_begin_9 : decode cX10_begin 9 = .ok (.invokevirtual 84, 3) := by decide +kernel
theorem dX10_begin_12 : decode cX10_begin 12 = .ok (.ifCond .eq 5, 3) := by decide +kernel
theorem dX10_begin_15 : decode cX10_begin 15 = .ok (.iconst 0, 1) := by decide +kernel
theorem dX10_begin_16 : decode cX10_begin 16 = .ok (.ireturn, 1) := by decide +kernel
theorem dX10_begin_17 : decode cX10_begin 17 = .ok (.aload_n 0, 1) := by decide +kernel
theorem dX10_begin_18 : decode cX10_begin 18 = .ok (.aload_n 0, 1) := by decide +kernel
theorem dX10_begin_19 : decode cX10_begin 19 = .ok (.iload_n 1, 1) := by decide +kernel
theorem dX10_begin_20 : decode cX10_begin 20 = .ok (.iload_n 2, 1) := by decide +kernel
theorem dX10_begin_21 : decode cX10_begin 21 = .ok (.invokevirtual 166, 3) := by decide +kernel
theorem dX10_begin_24 : decode cX10_begin 24 = .ok (.invokevirtual 203, 3) := by decide +kernel
theorem dX10_begin_27 : decode cX10_begin 27 = .ok (.iconst 5, 1) := by decide +kernel
theorem dX10_begin_28 : decode cX10_begin 28 = .ok (.invokevirtual 84, 3) := by decide +kernel
theorem dX10_begin_31 : decode cX10_begin 31 = .ok (.ifCond .eq 5, 3) := by decide +kernel
theorem dX10_begin_34 : decode cX10_begin 34 = .ok (.iconst 0, 1) := by decide +kernel
theorem dX10_begin_35 : decode cX10_begin 35 = .ok (.ireturn, 1) := by decide +kernel
theorem dX10_begin_36 : decode cX10_begin 36 = .ok (.iconst 0, 1) := by decide +kernel
theorem dX10_begin_37 : decode cX10_begin 37 = .ok (.istore 4, 2) := by decide +kernel
theorem dX10_begin_39 : decode cX10_begin 39 = .ok (.iload 4, 2) := by decide +kernel
theorem dX10_begin_41 : decode cX10_begin 41 = .ok (.bipush 40, 2) := by decide +kernel
theorem dX10_begin_43 : decode cX10_begin 43 = .ok (.if_icmp .ge 38, 3) := by decide +kernel
theorem dX10_begin_46 : decode cX10_begin 46 = .ok (.aload_n 0, 1) := by decide +kernel
theorem dX10_begin_47 : decode cX10_begin 47 = .ok (.getfield 40, 3) := by decide +kernel
theorem dX10_begin_50 : decode cX10_begin 50 = .ok (.aload_n 0, 1) := by decide +kernel
theorem dX10_begin_51 : decode cX10_begin 51 = .ok (.getfield 33, 3) := by decide +kernel
theorem dX10_begin_54 : decode cX10_begin 54 = .ok (.iload 4, 2) := by decide +kernel
theorem dX10_begin_56 : decode cX10_begin 56 = .ok (.invokevirtual 236, 3) := by decide +kernel
theorem dX10_begin_59 : decode cX10_begin 59 = .ok (.aload_n 0, 1) := by decide +kernel
theorem dX10_begin_60 : decode cX10_begin 60 = .ok (.getfield 61, 3) := by decide +kernel
theorem dX10_begin_63 : decode cX10_begin 63 = .ok (.iload 4, 2) := by decide +kernel
theorem dX10_begin_65 : decode cX10_begin 65 = .ok (.aload_n 0, 1) := by decide +kernel
theorem dX10_begin_66 : decode cX10_begin 66 = .ok (.getfield 40, 3) := by decide +kernel
theorem dX10_begin_69 : decode cX10_begin 69 = .ok (.invokevirtual 170, 3) := by decide +kernel
theorem dX10_begin_72 : decode cX10_begin 72 = .ok (.invokevirtual 341, 3) := by decide +kernel
theorem dX10_begin_75 : decode cX10_begin 75 = .ok (.iinc 4 1, 3) := by decide +kernel
theorem dX10_begin_78 : decode cX10_begin 78 = .ok (.goto (-39), 3) := by decide +kernel
theorem dX10_begin_81 : decode cX10_begin 81 = .ok (.aload_n 0, 1) := by decide +kernel
theorem dX10_begin_82 : decode cX10_begin 82 = .ok (.getfield 61, 3) := by decide +kernel
theorem dX10_begin_85 : decode cX10_begin 85 = .ok (.iload_n 1, 1) := by decide +kernel
theorem dX10_begin_86 : decode cX10_begin 86 = .ok (.iload_n 2, 1) := by decide +kernel
theorem dX10_begin_87 : decode cX10_begin 87 = .ok (.iload_n 3, 1) := by decide +kernel
theorem dX10_begin_88 : decode cX10_begin 88 = .ok (.invokevirtual 345, 3) := by decide +kernel
theorem dX10_begin_91 : decode cX10_begin 91 = .ok (.iconst 1, 1) := by decide +kernel
theorem dX10_begin_92 : decode cX10_begin 92 = .ok (.ireturn, 1) := by decide +kernel
theorem dX10_walk_0 : decode cX10_walk 0 = .ok (.aload_n 0, 1) := by decide +kernel
theorem dX10_walk_1 : decode cX10_walk 1 = .ok (.iload_n 1, 1) := by decide +kernel
theorem dX10_walk_2 : decode cX10_walk 2 = .ok (.iconst 4, 1) := by decide +kernel
theorem dX10_walk_3 : decode cX10_walk 3 = .ok (.invokestatic 118, 3) := by decide +kernel
theorem dX10_walk_6 : decode cX10_walk 6 = .ok (.iconst 1, 1) := by decide +kernel
theorem dX10_walk_7 : decode cX10_walk 7 = .ok (.invokevirtual 84, 3) := by decide +kernel
theorem dX10_walk_10 : decode cX10_walk 10 = .ok (.ifCond .eq 5, 3) := by decide +kernel
theorem dX10_walk_13 : decode cX10_walk 13 = .ok (.iconst (-1), 1) := by decide +kernel
theorem dX10_walk_14 : decode cX10_walk 14 = .ok (.ireturn, 1) := by decide +kernel
theorem dX10_walk_15 : decode cX10_walk 15 = .ok (.aload_n 0, 1) := by decide +kernel
theorem dX10_walk_16 : decode cX10_walk 16 = .ok (.aload_n 0, 1) := by decide +kernel
theorem dX10_walk_17 : decode cX10_walk 17 = .ok (.getfield 61, 3) := by decide +kernel
theorem dX10_walk_20 : decode cX10_walk 20 = .ok (.invokevirtual 348, 3) := by decide +kernel
theorem dX10_walk_23 : decode cX10_walk 23 = .ok (.iconst 5, 1) := by decide +kernel
theorem dX10_walk_24 : decode cX10_walk 24 = .ok (.invokevirtual 84, 3) := by decide +kernel
theorem dX10_walk_27 : decode cX10_walk 27 = .ok (.ifCond .eq 5, 3) := by decide +kernel
theorem dX10_walk_30 : decode cX10_walk 30 = .ok (.iconst (-1), 1) := by decide +kernel
theorem dX10_walk_31 : decode cX10_walk 31 = .ok (.ireturn, 1) := by decide +kernel
theorem dX10_walk_32 : decode cX10_walk 32 = .ok (.aload_n 0, 1) := by decide +kernel
theorem dX10_walk_33 : decode cX10_walk 33 = .ok (.getfield 61, 3) := by decide +kernel
theorem dX10_walk_36 : decode cX10_walk 36 = .ok (.iload_n 1, 1) := by decide +kernel
theorem dX10_walk_37 : decode cX10_walk 37 = .ok (.invokevirtual 351, 3) := by decide +kernel
theorem dX10_walk_40 : decode cX10_walk 40 = .ok (.ireturn, 1) := by decide +kernel
theorem dX10_steps_0 : decode cX10_steps 0 = .ok (.aload_n 0, 1) := by decide +kernel
theorem dX10_steps_1 : decode cX10_steps 1 = .ok (.aload_n 0, 1) := by decide +kernel
theorem dX10_steps_2 : decode cX10_steps 2 = .ok (.getfield 61, 3) := by decide +kernel
theorem dX10_steps_5 : decode cX10_steps 5 = .ok (.invokevirtual 348, 3) := by decide +kernel
theorem dX10_steps_8 : decode cX10_steps 8 = .ok (.iconst 5, 1) := by decide +kernel
theorem dX10_steps_9 : decode cX10_steps 9 = .ok (.invokevirtual 84, 3) := by decide +kernel
theorem dX10_steps_12 : decode cX10_steps 12 = .ok (.ifCond .eq 5, 3) := by decide +kernel
theorem dX10_steps_15 : decode cX10_steps 15 = .ok (.iconst (-1), 1) := by decide +kernel
theorem dX10_steps_16 : decode cX10_steps 16 = .ok (.ireturn, 1) := by decide +kernel
theorem dX10_steps_17 : decode cX10_steps 17 = .ok (.aload_n 0, 1) := by decide +kernel
theorem dX10_steps_18 : decode cX10_steps 18 = .ok (.iload_n 1, 1) := by decide +kernel
theorem dX10_steps_19 : decode cX10_steps 19 = .ok (.bipush (-100), 2) := by decide +kernel
theorem dX10_steps_21 : decode cX10_steps 21 = .ok (.if_icmp .lt 13, 3) := by decide +kernel
theorem dX10_steps_24 : decode cX10_steps 24 = .ok (.iload_n 1, 1) := by decide +kernel
theorem dX10_steps_25 : decode cX10_steps 25 = .ok (.bipush 100, 2) := by decide +kernel
theorem dX10_steps_27 : decode cX10_steps 27 = .ok (.if_icmp .gt 7, 3) := by decide +kernel
theorem dX10_steps_30 : decode cX10_steps 30 = .ok (.iconst 1, 1) := by decide +kernel
theorem dX10_steps_31 : decode cX10_steps 31 = .ok (.goto 4, 3) := by decide +kernel
theorem dX10_steps_34 : decode cX10_steps 34 = .ok (.iconst 0, 1) := by decide +kernel
theorem dX10_steps_35 : decode cX10_steps 35 = .ok (.iconst 2, 1) := by decide +kernel
theorem dX10_steps_36 : decode cX10_steps 36 = .ok (.invokevirtual 84, 3) := by decide +kernel
theorem dX10_steps_39 : decode cX10_steps 39 = .ok (.ifCond .eq 5, 3) := by decide +kernel
theorem dX10_steps_42 : decode cX10_steps 42 = .ok (.iconst (-1), 1) := by decide +kernel
theorem dX10_steps_43 : decode cX10_steps 43 = .ok (.ireturn, 1) := by decide +kernel
theorem dX10_steps_44 : decode cX10_steps 44 = .ok (.aload_n 0, 1) := by decide +kernel
theorem dX10_steps_45 : decode cX10_steps 45 = .ok (.getfield 61, 3) := by decide +kernel
theorem dX10_steps_48 : decode cX10_steps 48 = .ok (.iload_n 1, 1) := by decide +kernel
theorem dX10_steps_49 : decode cX10_steps 49 = .ok (.invokestatic 353, 3) := by decide +kernel
theorem dX10_steps_52 : decode cX10_steps 52 = .ok (.iload_n 1, 1) := by decide +kernel
theorem dX10_steps_53 : decode cX10_steps 53 = .ok (.ifCond .ge 7, 3) := by decide +kernel
theorem dX10_steps_56 : decode cX10_steps 56 = .ok (.iconst 1, 1) := by decide +kernel
theorem dX10_steps_57 : decode cX10_steps 57 = .ok (.goto 4, 3) := by decide +kernel
theorem dX10_steps_60 : decode cX10_steps 60 = .ok (.iconst 0, 1) := by decide +kernel
theorem dX10_steps_61 : decode cX10_steps 61 = .ok (.invokevirtual 355, 3) := by decide +kernel
theorem dX10_steps_64 : decode cX10_steps 64 = .ok (.ireturn, 1) := by decide +kernel
theorem dX10_flip_0 : decode cX10_flip 0 = .ok (.aload_n 0, 1) := by decide +kernel
theorem dX10_flip_1 : decode cX10_flip 1 = .ok (.aload_n 0, 1) := by decide +kernel
theorem dX10_flip_2 : decode cX10_flip 2 = .ok (.getfield 61, 3) := by decide +kernel
theorem dX10_flip_5 : decode cX10_flip 5 = .ok (.invokevirtual 348, 3) := by decide +kernel
theorem dX10_flip_8 : decode cX10_flip 8 = .ok (.ifCond .eq 17, 3) := by decide +kernel
theorem dX10_flip_11 : decode cX10_flip 11 = .ok (.aload_n 0, 1) := by decide +kernel
theorem dX10_flip_12 : decode cX10_flip 12 = .ok (.getfield 61, 3) := by decide +kernel
theorem dX10_flip_15 : decode cX10_flip 15 = .ok (.invokevirtual 359, 3) := by decide +kernel
theorem dX10_flip_18 : decode cX10_flip 18 = .ok (.ifCond .eq 7, 3) := by decide +kernel
theorem dX10_flip_21 : decode cX10_flip 21 = .ok (.iconst 1, 1) := by decide +kernel
theorem dX10_flip_22 : decode cX10_flip 22 = .ok (.goto 4, 3) := by decide +kernel
theorem dX10_flip_25 : decode cX10_flip 25 = .ok (.iconst 0, 1) := by decide +kernel
theorem dX10_flip_26 : decode cX10_flip 26 = .ok (.iconst 5, 1) := by decide +kernel
theorem dX10_flip_27 : decode cX10_flip 27 = .ok (.invokevirtual 84, 3) := by decide +kernel
theorem dX10_flip_30 : decode cX10_flip 30 = .ok (.ifCond .eq 5, 3) := by decide +kernel
theorem dX10_flip_33 : decode cX10_flip 33 = .ok (.iconst (-1), 1) := by decide +kernel
theorem dX10_flip_34 : decode cX10_flip 34 = .ok (.ireturn, 1) := by decide +kernel
theorem dX10_flip_35 : decode cX10_flip 35 = .ok (.aload_n 0, 1) := by decide +kernel
theorem dX10_flip_36 : decode cX10_flip 36 = .ok (.getfield 61, 3) := by decide +kernel
theorem dX10_flip_39 : decode cX10_flip 39 = .ok (.invokevirtual 362, 3) := by decide +kernel
theorem dX10_flip_42 : decode cX10_flip 42 = .ok (.ireturn, 1) := by decide +kernel
theorem dX10_away_0 : decode cX10_away 0 = .ok (.aload_n 0, 1) := by decide +kernel
theorem dX10_away_1 : decode cX10_away 1 = .ok (.aload_n 0, 1) := by decide +kernel
theorem dX10_away_2 : decode cX10_away 2 = .ok (.getfield 61, 3) := by decide +kernel
theorem dX10_away_5 : decode cX10_away 5 = .ok (.invokevirtual 348, 3) := by decide +kernel
theorem dX10_away_8 : decode cX10_away 8 = .ok (.iconst 5, 1) := by decide +kernel
theorem dX10_away_9 : decode cX10_away 9 = .ok (.invokevirtual 84, 3) := by decide +kernel
theorem dX10_away_12 : decode cX10_away 12 = .ok (.ifCond .eq 5, 3) := by decide +kernel
theorem dX10_away_15 : decode cX10_away 15 = .ok (.iconst (-1), 1) := by decide +kernel
theorem dX10_away_16 : decode cX10_away 16 = .ok (.ireturn, 1) := by decide +kernel
theorem dX10_away_17 : decode cX10_away 17 = .ok (.aload_n 0, 1) := by decide +kernel
theorem dX10_away_18 : decode cX10_away 18 = .ok (.iload_n 1, 1) := by decide +kernel
theorem dX10_away_19 : decode cX10_away 19 = .ok (.invokestatic 114, 3) := by decide +kernel
theorem dX10_away_22 : decode cX10_away 22 = .ok (.ifCond .eq 15, 3) := by decide +kernel
theorem dX10_away_25 : decode cX10_away 25 = .ok (.iload_n 2, 1) := by decide +kernel
theorem dX10_away_26 : decode cX10_away 26 = .ok (.iconst 2, 1) := by decide +kernel
theorem dX10_away_27 : decode cX10_away 27 = .ok (.invokestatic 118, 3) := by decide +kernel
theorem dX10_away_30 : decode cX10_away 30 = .ok (.ifCond .eq 7, 3) := by decide +kernel
theorem dX10_away_33 : decode cX10_away 33 = .ok (.iconst 1, 1) := by decide +kernel
theorem dX10_away_34 : decode cX10_away 34 = .ok (.goto 4, 3) := by decide +kernel
theorem dX10_away_37 : decode cX10_away 37 = .ok (.iconst 0, 1) := by decide +kernel
theorem dX10_away_38 : decode cX10_away 38 = .ok (.iconst 1, 1) := by decide +kernel
theorem dX10_away_39 : decode cX10_away 39 = .ok (.invokevirtual 84, 3) := by decide +kernel
theorem dX10_away_42 : decode cX10_away 42 = .ok (.ifCond .eq 5, 3) := by decide +kernel
theorem dX10_away_45 : decode cX10_away 45 = .ok (.iconst (-1), 1) := by decide +kernel
theorem dX10_away_46 : decode cX10_away 46 = .ok (.ireturn, 1) := by decide +kernel
theorem dX10_away_47 : decode cX10_away 47 = .ok (.aload_n 0, 1) := by decide +kernel
theorem dX10_away_48 : decode cX10_away 48 = .ok (.getfield 61, 3) := by decide +kernel
theorem dX10_away_51 : decode cX10_away 51 = .ok (.iload_n 1, 1) := by decide +kernel
theorem dX10_away_52 : decode cX10_away 52 = .ok (.iload_n 2, 1) := by decide +kernel
theorem dX10_away_53 : decode cX10_away 53 = .ok (.invokevirtual 365, 3) := by decide +kernel
theorem dX10_away_56 : decode cX10_away 56 = .ok (.ireturn, 1) := by decide +kernel
theorem dX10_reshape_0 : decode cX10_reshape 0 = .ok (.aload_n 0, 1) := by decide +kernel
theorem dX10_reshape_1 : decode cX10_reshape 1 = .ok (.aload_n 0, 1) := by decide +kernel
theorem dX10_reshape_2 : decode cX10_reshape 2 = .ok (.iload_n 1, 1) := by decide +kernel
theorem dX10_reshape_3 : decode cX10_reshape 3 = .ok (.invokevirtual 133, 3) := by decide +kernel
theorem dX10_reshape_6 : decode cX10_reshape 6 = .ok (.ifCond .eq 15, 3) := by decide +kernel
theorem dX10_reshape_9 : decode cX10_reshape 9 = .ok (.iload_n 2, 1) := by decide +kernel
theorem dX10_reshape_10 : decode cX10_reshape 10 = .ok (.iconst 4, 1) := by decide +kernel
theorem dX10_reshape_11 : decode cX10_reshape 11 = .ok (.invokestatic 118, 3) := by decide +kernel
theorem dX10_reshape_14 : decode cX10_reshape 14 = .ok (.ifCond .eq 7, 3) := by decide +kernel
theorem dX10_reshape_17 : decode cX10_reshape 17 = .ok (.iconst 1, 1) := by decide +kernel
theorem dX10_reshape_18 : decode cX10_reshape 18 = .ok (.goto 4, 3) := by decide +kernel
theorem dX10_reshape_21 : decode cX10_reshape 21 = .ok (.iconst 0, 1) := by decide +kernel
theorem dX10_reshape_22 : decode cX10_reshape 22 = .ok (.iconst 1, 1) := by decide +kernel
theorem dX10_reshape_23 : decode cX10_reshape 23 = .ok (.invokevirtual 84, 3) := by decide +kernel
theorem dX10_reshape_26 : decode cX10_reshape 26 = .ok (.ifCond .eq 5, 3) := by decide +kernel
theorem dX10_reshape_29 : decode cX10_reshape 29 = .ok (.iconst (-1), 1) := by decide +kernel
theorem dX10_reshape_30 : decode cX10_reshape 30 = .ok (.ireturn, 1) := by decide +kernel
theorem dX10_reshape_31 : decode cX10_reshape 31 = .ok (.aload_n 0, 1) := by decide +kernel
theorem dX10_reshape_32 : decode cX10_reshape 32 = .ok (.iload_n 3, 1) := by decide +kernel
theorem dX10_reshape_33 : decode cX10_reshape 33 = .ok (.iconst 1, 1) := by decide +kernel
theorem dX10_reshape_34 : decode cX10_reshape 34 = .ok (.if_icmp .lt 13, 3) := by decide +kernel
theorem dX10_reshape_37 : decode cX10_reshape 37 = .ok (.iload_n 3, 1) := by decide +kernel
theorem dX10_reshape_38 : decode cX10_reshape 38 = .ok (.bipush 18, 2) := by decide +kernel
theorem dX10_reshape_40 : decode cX10_reshape 40 = .ok (.if_icmp .gt 7, 3) := by decide +kernel
theorem dX10_reshape_43 : decode cX10_reshape 43 = .ok (.iconst 1, 1) := by decide +kernel
theorem dX10_reshape_44 : decode cX10_reshape 44 = .ok (.goto 4, 3) := by decide +kernel
theorem dX10_reshape_47 : decode cX10_reshape 47 = .ok (.iconst 0, 1) := by decide +kernel
theorem dX10_reshape_48 : decode cX10_reshape 48 = .ok (.iconst 2, 1) := by decide +kernel
theorem dX10_reshape_49 : decode cX10_reshape 49 = .ok (.invokevirtual 84, 3) := by decide +kernel
theorem dX10_reshape_52 : decode cX10_reshape 52 = .ok (.ifCond .eq 5, 3) := by decide +kernel
theorem dX10_reshape_55 : decode cX10_reshape 55 = .ok (.iconst (-1), 1) := by decide +kernel
theorem dX10_reshape_56 : decode cX10_reshape 56 = .ok (.ireturn, 1) := by decide +kernel
theorem dX10_reshape_57 : decode cX10_reshape 57 = .ok (.aload_n 0, 1) := by decide +kernel
theorem dX10_reshape_58 : decode cX10_reshape 58 = .ok (.getfield 23, 3) := by decide +kernel
theorem dX10_reshape_61 : decode cX10_reshape 61 = .ok (.iconst 0, 1) := by decide +kernel
theorem dX10_reshape_62 : decode cX10_reshape 62 = .ok (.iload_n 1, 1) := by decide +kernel
theorem dX10_reshape_63 : decode cX10_reshape 63 = .ok (.iload_n 2, 1) := by decide +kernel
theorem dX10_reshape_64 : decode cX10_reshape 64 = .ok (.invokevirtual 136, 3) := by decide +kernel
theorem dX10_reshape_67 : decode cX10_reshape 67 = .ok (.istore 4, 2) := by decide +kernel
theorem dX10_reshape_69 : decode cX10_reshape 69 = .ok (.aload_n 0, 1) := by decide +kernel
theorem dX10_reshape_70 : decode cX10_reshape 70 = .ok (.getfield 68, 3) := by decide +kernel
theorem dX10_reshape_73 : decode cX10_reshape 73 = .ok (.iload_n 1, 1) := by decide +kernel
theorem dX10_reshape_74 : decode cX10_reshape 74 = .ok (.iload_n 2, 1) := by decide +kernel
theorem dX10_reshape_75 : decode cX10_reshape 75 = .ok (.iload 4, 2) := by decide +kernel
theorem dX10_reshape_77 : decode cX10_reshape 77 = .ok (.invokevirtual 368, 3) := by decide +kernel
theorem dX10_reshape_80 : decode cX10_reshape 80 = .ok (.aload_n 0, 1) := by decide +kernel
theorem dX10_reshape_81 : decode cX10_reshape 81 = .ok (.getfield 23, 3) := by decide +kernel
theorem dX10_reshape_84 : decode cX10_reshape 84 = .ok (.iload_n 1, 1) := by decide +kernel
theorem dX10_reshape_85 : decode cX10_reshape 85 = .ok (.iload_n 2, 1) := by decide +kernel
theorem dX10_reshape_86 : decode cX10_reshape 86 = .ok (.iload_n 3, 1) := by decide +kernel
theorem dX10_reshape_87 : decode cX10_reshape 87 = .ok (.invokevirtual 371, 3) := by decide +kernel
theorem dX10_reshape_90 : decode cX10_reshape 90 = .ok (.aload_n 0, 1) := by decide +kernel
theorem dX10_reshape_91 : decode cX10_reshape 91 = .ok (.getfield 61, 3) := by decide +kernel
theorem dX10_reshape_94 : decode cX10_reshape 94 = .ok (.invokevirtual 96, 3) := by decide +kernel
theorem dX10_reshape_97 : decode cX10_reshape 97 = .ok (.iload 4, 2) := by decide +kernel
theorem dX10_reshape_99 : decode cX10_reshape 99 = .ok (.ireturn, 1) := by decide +kernel
theorem dX10_undo_0 : decode cX10_undo 0 = .ok (.aload_n 0, 1) := by decide +kernel
theorem dX10_undo_1 : decode cX10_undo 1 = .ok (.aload_n 0, 1) := by decide +kernel
theorem dX10_undo_2 : decode cX10_undo 2 = .ok (.getfield 68, 3) := by decide +kernel
theorem dX10_undo_5 : decode cX10_undo 5 = .ok (.invokevirtual 374, 3) := by decide +kernel
theorem dX10_undo_8 : decode cX10_undo 8 = .ok (.ifCond .le 7, 3) := by decide +kernel
theorem dX10_undo_11 : decode cX10_undo 11 = .ok (.iconst 1, 1) := by decide +kernel
theorem dX10_undo_12 : decode cX10_undo 12 = .ok (.goto 4, 3) := by decide +kernel
theorem dX10_undo_15 : decode cX10_undo 15 = .ok (.iconst 0, 1) := by decide +kernel
theorem dX10_undo_16 : decode cX10_undo 16 = .ok (.iconst 1, 1) := by decide +kernel
theorem dX10_undo_17 : decode cX10_undo 17 = .ok (.invokevirtual 84, 3) := by decide +kernel
theorem dX10_undo_20 : decode cX10_undo 20 = .ok (.ifCond .eq 5, 3) := by decide +kernel
theorem dX10_undo_23 : decode cX10_undo 23 = .ok (.iconst 0, 1) := by decide +kernel
theorem dX10_undo_24 : decode cX10_undo 24 = .ok (.ireturn, 1) := by decide +kernel
theorem dX10_undo_25 : decode cX10_undo 25 = .ok (.aload_n 0, 1) := by decide +kernel
theorem dX10_undo_26 : decode cX10_undo 26 = .ok (.getfield 68, 3) := by decide +kernel
theorem dX10_undo_29 : decode cX10_undo 29 = .ok (.aload_n 0, 1) := by decide +kernel
theorem dX10_undo_30 : decode cX10_undo 30 = .ok (.getfield 23, 3) := by decide +kernel
theorem dX10_undo_33 : decode cX10_undo 33 = .ok (.invokevirtual 376, 3) := by decide +kernel
theorem dX10_undo_36 : decode cX10_undo 36 = .ok (.aload_n 0, 1) := by decide +kernel
theorem dX10_undo_37 : decode cX10_undo 37 = .ok (.getfield 61, 3) := by decide +kernel
theorem dX10_undo_40 : decode cX10_undo 40 = .ok (.invokevirtual 96, 3) := by decide +kernel
theorem dX10_undo_43 : decode cX10_undo 43 = .ok (.iconst 1, 1) := by decide +kernel
theorem dX10_undo_44 : decode cX10_undo 44 = .ok (.ireturn, 1) := by decide +kernel
theorem dX10_unbuilt_0 : decode cX10_unbuilt 0 = .ok (.iconst 0, 1) := by decide +kernel
theorem dX10_unbuilt_1 : decode cX10_unbuilt 1 = .ok (.istore_n 2, 1) := by decide +kernel
theorem dX10_unbuilt_2 : decode cX10_unbuilt 2 = .ok (.iconst 0, 1) := by decide +kernel
theorem dX10_unbuilt_3 : decode cX10_unbuilt 3 = .ok (.istore_n 3, 1) := by decide +kernel
theorem dX10_unbuilt_4 : decode cX10_unbuilt 4 = .ok (.iload_n 3, 1) := by decide +kernel
theorem dX10_unbuilt_5 : decode cX10_unbuilt 5 = .ok (.aload_n 0, 1) := by decide +kernel
theorem dX10_unbuilt_6 : decode cX10_unbuilt 6 = .ok (.getfield 23, 3) := by decide +kernel
theorem dX10_unbuilt_9 : decode cX10_unbuilt 9 = .ok (.iconst 0, 1) := by decide +kernel
theorem dX10_unbuilt_10 : decode cX10_unbuilt 10 = .ok (.invokevirtual 102, 3) := by decide +kernel
theorem dX10_unbuilt_13 : decode cX10_unbuilt 13 = .ok (.if_icmp .ge 30, 3) := by decide +kernel
theorem dX10_unbuilt_16 : decode cX10_unbuilt 16 = .ok (.aload_n 0, 1) := by decide +kernel
theorem dX10_unbuilt_17 : decode cX10_unbuilt 17 = .ok (.iload_n 3, 1) := by decide +kernel
theorem dX10_unbuilt_18 : decode cX10_unbuilt 18 = .ok (.invokevirtual 140, 3) := by decide +kernel
theorem dX10_unbuilt_21 : decode cX10_unbuilt 21 = .ok (.invokevirtual 379, 3) := by decide +kernel
theorem dX10_unbuilt_24 : decode cX10_unbuilt 24 = .ok (.ifCond .ne 13, 3) := by decide +kernel
theorem dX10_unbuilt_27 : decode cX10_unbuilt 27 = .ok (.iload_n 2, 1) := by decide +kernel
theorem dX10_unbuilt_28 : decode cX10_unbuilt 28 = .ok (.iload_n 1, 1) := by decide +kernel
theorem dX10_unbuilt_29 : decode cX10_unbuilt 29 = .ok (.if_icmp .ne 5, 3) := by decide +kernel
theorem dX10_unbuilt_32 : decode cX10_unbuilt 32 = .ok (.iload_n 3, 1) := by decide +kernel
theorem dX10_unbuilt_33 : decode cX10_unbuilt 33 = .ok (.ireturn, 1) := by decide +kernel
theorem dX10_unbuilt_34 : decode cX10_unbuilt 34 = .ok (.iinc 2 1, 3) := by decide +kernel
theorem dX10_unbuilt_37 : decode cX10_unbuilt 37 = .ok (.iinc 3 1, 3) := by decide +kernel
theorem dX10_unbuilt_40 : decode cX10_unbuilt 40 = .ok (.goto (-36), 3) := by decide +kernel
theorem dX10_unbuilt_43 : decode cX10_unbuilt 43 = .ok (.new 382, 3) := by decide +kernel
theorem dX10_unbuilt_46 : decode cX10_unbuilt 46 = .ok (.dup, 1) := by decide +kernel
theorem dX10_unbuilt_47 : decode cX10_unbuilt 47 = .ok (.ldc_w 384, 3) := by decide +kernel
theorem dX10_unbuilt_50 : decode cX10_unbuilt 50 = .ok (.invokespecial 386, 3) := by decide +kernel
theorem dX10_unbuilt_53 : decode cX10_unbuilt 53 = .ok (.athrow, 1) := by decide +kernel
theorem dX10_size_0 : decode cX10_size 0 = .ok (.iload_n 1, 1) := by decide +kernel
theorem dX10_size_1 : decode cX10_size 1 = .ok (.iconst 4, 1) := by decide +kernel
theorem dX10_size_2 : decode cX10_size 2 = .ok (.invokestatic 118, 3) := by decide +kernel
theorem dX10_size_5 : decode cX10_size 5 = .ok (.ifCond .eq 12, 3) := by decide +kernel
theorem dX10_size_8 : decode cX10_size 8 = .ok (.aload_n 0, 1) := by decide +kernel
theorem dX10_size_9 : decode cX10_size 9 = .ok (.getfield 23, 3) := by decide +kernel
theorem dX10_size_12 : decode cX10_size 12 = .ok (.iload_n 1, 1) := by decide +kernel
theorem dX10_size_13 : decode cX10_size 13 = .ok (.invokevirtual 102, 3) := by decide +kernel
theorem dX10_size_16 : decode cX10_size 16 = .ok (.ireturn, 1) := by decide +kernel
theorem dX10_size_17 : decode cX10_size 17 = .ok (.iload_n 1, 1) := by decide +kernel
theorem dX10_size_18 : decode cX10_size 18 = .ok (.iconst 4, 1) := by decide +kernel
theorem dX10_size_19 : decode cX10_size 19 = .ok (.if_icmp .ne 11, 3) := by decide +kernel
theorem dX10_size_22 : decode cX10_size 22 = .ok (.aload_n 0, 1) := by decide +kernel
theorem dX10_size_23 : decode cX10_size 23 = .ok (.getfield 68, 3) := by decide +kernel
theorem dX10_size_26 : decode cX10_size 26 = .ok (.invokevirtual 374, 3) := by decide +kernel
theorem dX10_size_29 : decode cX10_size 29 = .ok (.ireturn, 1) := by decide +kernel
theorem dX10_size_30 : decode cX10_size 30 = .ok (.iload_n 1, 1) := by decide +kernel
theorem dX10_size_31 : decode cX10_size 31 = .ok (.iconst 5, 1) := by decide +kernel
theorem dX10_size_32 : decode cX10_size 32 = .ok (.if_icmp .ne 13, 3) := by decide +kernel
theorem dX10_size_35 : decode cX10_size 35 = .ok (.aload_n 0, 1) := by decide +kernel
theorem dX10_size_36 : decode cX10_size 36 = .ok (.getfield 16, 3) := by decide +kernel
theorem dX10_size_39 : decode cX10_size 39 = .ok (.invokevirtual 80, 3) := by decide +kernel
theorem dX10_size_42 : decode cX10_size 42 = .ok (.goto 4, 3) := by decide +kernel
theorem dX10_size_45 : decode cX10_size 45 = .ok (.iconst (-1), 1) := by decide +kernel
theorem dX10_size_46 : decode cX10_size 46 = .ok (.ireturn, 1) := by decide +kernel
theorem dX10_trouble_0 : decode cX10_trouble 0 = .ok (.aload_n 0, 1) := by decide +kernel
theorem dX10_trouble_1 : decode cX10_trouble 1 = .ok (.getfield 9, 3) := by decide +kernel
theorem dX10_trouble_4 : decode cX10_trouble 4 = .ok (.ireturn, 1) := by decide +kernel
theorem dX10_refused_0 : decode cX10_refused 0 = .ok (.aload_n 0, 1) := by decide +kernel
theorem dX10_refused_1 : decode cX10_refused 1 = .ok (.iload_n 1, 1) := by decide +kernel
theorem dX10_refused_2 : decode cX10_refused 2 = .ok (.ifCond .eq 7, 3) := by decide +kernel
theorem dX10_refused_5 : decode cX10_refused 5 = .ok (.iconst 0, 1) := by decide +kernel
theorem dX10_refused_6 : decode cX10_refused 6 = .ok (.goto 4, 3) := by decide +kernel
theorem dX10_refused_9 : decode cX10_refused 9 = .ok (.iload_n 2, 1) := by decide +kernel
theorem dX10_refused_10 : decode cX10_refused 10 = .ok (.putfield 9, 3) := by decide +kernel
theorem dX10_refused_13 : decode cX10_refused 13 = .ok (.iload_n 1, 1) := by decide +kernel
theorem dX10_refused_14 : decode cX10_refused 14 = .ok (.ifCond .ne 7, 3) := by decide +kernel
theorem dX10_refused_17 : decode cX10_refused 17 = .ok (.iconst 1, 1) := by decide +kernel
theorem dX10_refused_18 : decode cX10_refused 18 = .ok (.goto 4, 3) := by decide +kernel
theorem dX10_refused_21 : decode cX10_refused 21 = .ok (.iconst 0, 1) := by decide +kernel
theorem dX10_refused_22 : decode cX10_refused 22 = .ok (.ireturn, 1) := by decide +kernel
theorem dX10_isOf_0 : decode cX10_isOf 0 = .ok (.iload_n 0, 1) := by decide +kernel
theorem dX10_isOf_1 : decode cX10_isOf 1 = .ok (.ifCond .lt 12, 3) := by decide +kernel
theorem dX10_isOf_4 : decode cX10_isOf 4 = .ok (.iload_n 0, 1) := by decide +kernel
theorem dX10_isOf_5 : decode cX10_isOf 5 = .ok (.iload_n 1, 1) := by decide +kernel
theorem dX10_isOf_6 : decode cX10_isOf 6 = .ok (.if_icmp .ge 7, 3) := by decide +kernel
theorem dX10_isOf_9 : decode cX10_isOf 9 = .ok (.iconst 1, 1) := by decide +kernel
theorem dX10_isOf_10 : decode cX10_isOf 10 = .ok (.goto 4, 3) := by decide +kernel
theorem dX10_isOf_13 : decode cX10_isOf 13 = .ok (.iconst 0, 1) := by decide +kernel
theorem dX10_isOf_14 : decode cX10_isOf 14 = .ok (.ireturn, 1) := by decide +kernel
theorem dX10_hasLinkage_0 : decode cX10_hasLinkage 0 = .ok (.aload_n 0, 1) := by decide +kernel
theorem dX10_hasLinkage_1 : decode cX10_hasLinkage 1 = .ok (.getfield 23, 3) := by decide +kernel
theorem dX10_hasLinkage_4 : decode cX10_hasLinkage 4 = .ok (.iconst 0, 1) := by decide +kernel
theorem dX10_hasLinkage_5 : decode cX10_hasLinkage 5 = .ok (.iload_n 1, 1) := by decide +kernel
theorem dX10_hasLinkage_6 : decode cX10_hasLinkage 6 = .ok (.invokevirtual 264, 3) := by decide +kernel
theorem dX10_hasLinkage_9 : decode cX10_hasLinkage 9 = .ok (.ireturn, 1) := by decide +kernel
theorem dX10_hasPosition_0 : decode cX10_hasPosition 0 = .ok (.aload_n 0, 1) := by decide +kernel
theorem dX10_hasPosition_1 : decode cX10_hasPosition 1 = .ok (.iload_n 1, 1) := by decide +kernel
theorem dX10_hasPosition_2 : decode cX10_hasPosition 2 = .ok (.invokevirtual 133, 3) := by decide +kernel
theorem dX10_hasPosition_5 : decode cX10_hasPosition 5 = .ok (.ifCond .eq 22, 3) := by decide +kernel
theorem dX10_hasPosition_8 : decode cX10_hasPosition 8 = .ok (.iload_n 2, 1) := by decide +kernel
theorem dX10_hasPosition_9 : decode cX10_hasPosition 9 = .ok (.invokestatic 114, 3) := by decide +kernel
theorem dX10_hasPosition_12 : decode cX10_hasPosition 12 = .ok (.ifCond .eq 15, 3) := by decide +kernel
theorem dX10_hasPosition_15 : decode cX10_hasPosition 15 = .ok (.iload_n 3, 1) := by decide +kernel
theorem dX10_hasPosition_16 : decode cX10_hasPosition 16 = .ok (.iconst 2, 1) := by decide +kernel
theorem dX10_hasPosition_17 : decode cX10_hasPosition 17 = .ok (.invokestatic 118, 3) := by decide +kernel
theorem dX10_hasPosition_20 : decode cX10_hasPosition 20 = .ok (.ifCond .eq 7, 3) := by decide +kernel
theorem dX10_hasPosition_23 : decode cX10_hasPosition 23 = .ok (.iconst 1, 1) := by decide +kernel
theorem dX10_hasPosition_24 : decode cX10_hasPosition 24 = .ok (.goto 4, 3) := by decide +kernel
theorem dX10_hasPosition_27 : decode cX10_hasPosition 27 = .ok (.iconst 0, 1) := by decide +kernel
theorem dX10_hasPosition_28 : decode cX10_hasPosition 28 = .ok (.ireturn, 1) := by decide +kernel
theorem dX10_hasCurve_0 : decode cX10_hasCurve 0 = .ok (.aload_n 0, 1) := by decide +kernel
theorem dX10_hasCurve_1 : decode cX10_hasCurve 1 = .ok (.iload_n 1, 1) := by decide +kernel
theorem dX10_hasCurve_2 : decode cX10_hasCurve 2 = .ok (.invokevirtual 133, 3) := by decide +kernel
theorem dX10_hasCurve_5 : decode cX10_hasCurve 5 = .ok (.ifCond .eq 27, 3) := by decide +kernel
theorem dX10_hasCurve_8 : decode cX10_hasCurve 8 = .ok (.aload_n 0, 1) := by decide +kernel
theorem dX10_hasCurve_9 : decode cX10_hasCurve 9 = .ok (.getfield 23, 3) := by decide +kernel
theorem dX10_hasCurve_12 : decode cX10_hasCurve 12 = .ok (.iconst 1, 1) := by decide +kernel
theorem dX10_hasCurve_13 : decode cX10_hasCurve 13 = .ok (.iload_n 2, 1) := by decide +kernel
theorem dX10_hasCurve_14 : decode cX10_hasCurve 14 = .ok (.invokevirtual 264, 3) := by decide +kernel
theorem dX10_hasCurve_17 : decode cX10_hasCurve 17 = .ok (.ifCond .eq 15, 3) := by decide +kernel
theorem dX10_hasCurve_20 : decode cX10_hasCurve 20 = .ok (.iload_n 3, 1) := by decide +kernel
theorem dX10_hasCurve_21 : decode cX10_hasCurve 21 = .ok (.iconst 2, 1) := by decide +kernel
theorem dX10_hasCurve_22 : decode cX10_hasCurve 22 = .ok (.invokestatic 118, 3) := by decide +kernel
theorem dX10_hasCurve_25 : decode cX10_hasCurve 25 = .ok (.ifCond .eq 7, 3) := by decide +kernel
theorem dX10_hasCurve_28 : decode cX10_hasCurve 28 = .ok (.iconst 1, 1) := by decide +kernel
theorem dX10_hasCurve_29 : decode cX10_hasCurve 29 = .ok (.goto 4, 3) := by decide +kernel
theorem dX10_hasCurve_32 : decode cX10_hasCurve 32 = .ok (.iconst 0, 1) := by decide +kernel
theorem dX10_hasCurve_33 : decode cX10_hasCurve 33 = .ok (.ireturn, 1) := by decide +kernel
theorem dX10_linkageAt_0 : decode cX10_linkageAt 0 = .ok (.aload_n 0, 1) := by decide +kernel
theorem dX10_linkageAt_1 : decode cX10_linkageAt 1 = .ok (.getfield 33, 3) := by decide +kernel
theorem dX10_linkageAt_4 : decode cX10_linkageAt 4 = .ok (.aload_n 0, 1) := by decide +kernel
theorem dX10_linkageAt_5 : decode cX10_linkageAt 5 = .ok (.getfield 23, 3) := by decide +kernel
theorem dX10_linkageAt_8 : decode cX10_linkageAt 8 = .ok (.iload_n 1, 1) := by decide +kernel
theorem dX10_linkageAt_9 : decode cX10_linkageAt 9 = .ok (.invokevirtual 389, 3) := by decide +kernel
theorem dX10_linkageAt_12 : decode cX10_linkageAt 12 = .ok (.aload_n 0, 1) := by decide +kernel
theorem dX10_linkageAt_13 : decode cX10_linkageAt 13 = .ok (.getfield 33, 3) := by decide +kernel
theorem dX10_linkageAt_16 : decode cX10_linkageAt 16 = .ok (.areturn, 1) := by decide +kernel
theorem dX10_positionAt_0 : decode cX10_positionAt 0 = .ok (.aload_n 0, 1) := by decide +kernel
theorem dX10_positionAt_1 : decode cX10_positionAt 1 = .ok (.getfield 40, 3) := by decide +kernel
theorem dX10_positionAt_4 : decode cX10_positionAt 4 = .ok (.aload_n 0, 1) := by decide +kernel
theorem dX10_positionAt_5 : decode cX10_positionAt 5 = .ok (.iload_n 1, 1) := by decide +kernel
theorem dX10_positionAt_6 : decode cX10_positionAt 6 = .ok (.invokevirtual 140, 3) := by decide +kernel
theorem dX10_positionAt_9 : decode cX10_positionAt 9 = .ok (.iload_n 2, 1) := by decide +kernel
theorem dX10_positionAt_10 : decode cX10_positionAt 10 = .ok (.invokevirtual 236, 3) := by decide +kernel
theorem dX10_positionAt_13 : decode cX10_positionAt 13 = .ok (.aload_n 0, 1) := by decide +kernel
theorem dX10_positionAt_14 : decode cX10_positionAt 14 = .ok (.getfield 40, 3) := by decide +kernel
theorem dX10_positionAt_17 : decode cX10_positionAt 17 = .ok (.areturn, 1) := by decide +kernel
theorem dX10_curveAt_0 : decode cX10_curveAt 0 = .ok (.aload_n 0, 1) := by decide +kernel
theorem dX10_curveAt_1 : decode cX10_curveAt 1 = .ok (.iload_n 1, 1) := by decide +kernel
theorem dX10_curveAt_2 : decode cX10_curveAt 2 = .ok (.invokevirtual 140, 3) := by decide +kernel
theorem dX10_curveAt_5 : decode cX10_curveAt 5 = .ok (.pop, 1) := by decide +kernel
theorem dX10_curveAt_6 : decode cX10_curveAt 6 = .ok (.aload_n 0, 1) := by decide +kernel
theorem dX10_curveAt_7 : decode cX10_curveAt 7 = .ok (.getfield 23, 3) := by decide +kernel
theorem dX10_curveAt_10 : decode cX10_curveAt 10 = .ok (.iconst 1, 1) := by decide +kernel
theorem dX10_curveAt_11 : decode cX10_curveAt 11 = .ok (.iload_n 2, 1) := by decide +kernel
theorem dX10_curveAt_12 : decode cX10_curveAt 12 = .ok (.iconst 0, 1) := by decide +kernel
theorem dX10_curveAt_13 : decode cX10_curveAt 13 = .ok (.invokevirtual 136, 3) := by decide +kernel
theorem dX10_curveAt_16 : decode cX10_curveAt 16 = .ok (.istore 4, 2) := by decide +kernel
theorem dX10_curveAt_18 : decode cX10_curveAt 18 = .ok (.aload_n 0, 1) := by decide +kernel
theorem dX10_curveAt_19 : decode cX10_curveAt 19 = .ok (.getfield 23, 3) := by decide +kernel
theorem dX10_curveAt_22 : decode cX10_curveAt 22 = .ok (.iconst 1, 1) := by decide +kernel
theorem dX10_curveAt_23 : decode cX10_curveAt 23 = .ok (.iload_n 2, 1) := by decide +kernel
theorem dX10_curveAt_24 : decode cX10_curveAt 24 = .ok (.iconst 1, 1) := by decide +kernel
theorem dX10_curveAt_25 : decode cX10_curveAt 25 = .ok (.invokevirtual 136, 3) := by decide +kernel
theorem dX10_curveAt_28 : decode cX10_curveAt 28 = .ok (.istore 5, 2) := by decide +kernel
theorem dX10_curveAt_30 : decode cX10_curveAt 30 = .ok (.aload_n 0, 1) := by decide +kernel
theorem dX10_curveAt_31 : decode cX10_curveAt 31 = .ok (.getfield 47, 3) := by decide +kernel
theorem dX10_curveAt_34 : decode cX10_curveAt 34 = .ok (.invokevirtual 392, 3) := by decide +kernel
theorem dX10_curveAt_37 : decode cX10_curveAt 37 = .ok (.iconst 0, 1) := by decide +kernel
theorem dX10_curveAt_38 : decode cX10_curveAt 38 = .ok (.istore 6, 2) := by decide +kernel
theorem dX10_curveAt_40 : decode cX10_curveAt 40 = .ok (.iload 6, 2) := by decide +kernel
theorem dX10_curveAt_42 : decode cX10_curveAt 42 = .ok (.bipush 40, 2) := by decide +kernel
theorem dX10_curveAt_44 : decode cX10_curveAt 44 = .ok (.if_icmp .ge 67, 3) := by decide +kernel
theorem dX10_curveAt_47 : decode cX10_curveAt 47 = .ok (.aload_n 0, 1) := by decide +kernel
theorem dX10_curveAt_48 : decode cX10_curveAt 48 = .ok (.getfield 40, 3) := by decide +kernel
theorem dX10_curveAt_51 : decode cX10_curveAt 51 = .ok (.aload_n 0, 1) := by decide +kernel
theorem dX10_curveAt_52 : decode cX10_curveAt 52 = .ok (.getfield 33, 3) := by decide +kernel
theorem dX10_curveAt_55 : decode cX10_curveAt 55 = .ok (.iload 6, 2) := by decide +kernel
theorem dX10_curveAt_57 : decode cX10_curveAt 57 = .ok (.invokevirtual 236, 3) := by decide +kernel
theorem dX10_curveAt_60 : decode cX10_curveAt 60 = .ok (.aload_n 0, 1) := by decide +kernel
theorem dX10_curveAt_61 : decode cX10_curveAt 61 = .ok (.getfield 40, 3) := by decide +kernel
theorem dX10_curveAt_64 : decode cX10_curveAt 64 = .ok (.invokevirtual 203, 3) := by decide +kernel
theorem dX10_curveAt_67 : decode cX10_curveAt 67 = .ok (.ifCond .eq 38, 3) := by decide +kernel
theorem dX10_curveAt_70 : decode cX10_curveAt 70 = .ok (.aload_n 0, 1) := by decide +kernel
theorem dX10_curveAt_71 : decode cX10_curveAt 71 = .ok (.getfield 40, 3) := by decide +kernel
theorem dX10_curveAt_74 : decode cX10_curveAt 74 = .ok (.iload 4, 2) := by decide +kernel
theorem dX10_curveAt_76 : decode cX10_curveAt 76 = .ok (.iload 5, 2) := by decide +kernel
theorem dX10_curveAt_78 : decode cX10_curveAt 78 = .ok (.iload_n 3, 1) := by decide +kernel
theorem dX10_curveAt_79 : decode cX10_curveAt 79 = .ok (.invokevirtual 206, 3) := by decide +kernel
theorem dX10_curveAt_82 : decode cX10_curveAt 82 = .ok (.aload_n 0, 1) := by decide +kernel
theorem dX10_curveAt_83 : decode cX10_curveAt 83 = .ok (.getfield 47, 3) := by decide +kernel
theorem dX10_curveAt_86 : decode cX10_curveAt 86 = .ok (.aload_n 0, 1) := by decide +kernel
theorem dX10_curveAt_87 : decode cX10_curveAt 87 = .ok (.getfield 40, 3) := by decide +kernel
theorem dX10_curveAt_90 : decode cX10_curveAt 90 = .ok (.invokevirtual 210, 3) := by decide +kernel
theorem dX10_curveAt_93 : decode cX10_curveAt 93 = .ok (.aload_n 0, 1) := by decide +kernel
theorem dX10_curveAt_94 : decode cX10_curveAt 94 = .ok (.getfield 40, 3) := by decide +kernel
theorem dX10_curveAt_97 : decode cX10_curveAt 97 = .ok (.invokevirtual 213, 3) := by decide +kernel
theorem dX10_curveAt_100 : decode cX10_curveAt 100 = .ok (.iload 6, 2) := by decide +kernel
theorem dX10_curveAt_102 : decode cX10_curveAt 102 = .ok (.invokevirtual 395, 3) := by decide +kernel
theorem dX10_curveAt_105 : decode cX10_curveAt 105 = .ok (.iinc 6 1, 3) := by decide +kernel
theorem dX10_curveAt_108 : decode cX10_curveAt 108 = .ok (.goto (-68), 3) := by decide +kernel
theorem dX10_curveAt_111 : decode cX10_curveAt 111 = .ok (.aload_n 0, 1) := by decide +kernel
theorem dX10_curveAt_112 : decode cX10_curveAt 112 = .ok (.getfield 47, 3) := by decide +kernel
theorem dX10_curveAt_115 : decode cX10_curveAt 115 = .ok (.areturn, 1) := by decide +kernel
theorem dX10_cosineTold_0 : decode cX10_cosineTold 0 = .ok (.aload_n 0, 1) := by decide +kernel
theorem dX10_cosineTold_1 : decode cX10_cosineTold 1 = .ok (.aload_n 0, 1) := by decide +kernel
theorem dX10_cosineTold_2 : decode cX10_cosineTold 2 = .ok (.iload_n 1, 1) := by decide +kernel
theorem dX10_cosineTold_3 : decode cX10_cosineTold 3 = .ok (.invokevirtual 133, 3) := by decide +kernel
theorem dX10_cosineTold_6 : decode cX10_cosineTold 6 = .ok (.iconst 1, 1) := by decide +kernel
theorem dX10_cosineTold_7 : decode cX10_cosineTold 7 = .ok (.invokevirtual 84, 3) := by decide +kernel
theorem dX10_cosineTold_10 : decode cX10_cosineTold 10 = .ok (.ifCond .eq 7, 3) := by decide +kernel
theorem dX10_cosineTold_13 : decode cX10_cosineTold 13 = .ok (.ldc2_w 194, 3) := by decide +kernel
theorem dX10_cosineTold_16 : decode cX10_cosineTold 16 = .ok (.lreturn, 1) := by decide +kernel
theorem dX10_cosineTold_17 : decode cX10_cosineTold 17 = .ok (.aload_n 0, 1) := by decide +kernel
theorem dX10_cosineTold_18 : decode cX10_cosineTold 18 = .ok (.aload_n 0, 1) := by decide +kernel
theorem dX10_cosineTold_19 : decode cX10_cosineTold 19 = .ok (.iload_n 1, 1) := by decide +kernel
theorem dX10_cosineTold_20 : decode cX10_cosineTold 20 = .ok (.invokevirtual 140, 3) := by decide +kernel
theorem dX10_cosineTold_23 : decode cX10_cosineTold 23 = .ok (.invokevirtual 246, 3) := by decide +kernel
theorem dX10_cosineTold_26 : decode cX10_cosineTold 26 = .ok (.iconst 5, 1) := by decide +kernel
theorem dX10_cosineTold_27 : decode cX10_cosineTold 27 = .ok (.invokevirtual 84, 3) := by decide +kernel
theorem dX10_cosineTold_30 : decode cX10_cosineTold 30 = .ok (.ifCond .eq 7, 3) := by decide +kernel
theorem dX10_cosineTold_33 : decode cX10_cosineTold 33 = .ok (.ldc2_w 194, 3) := by decide +kernel
theorem dX10_cosineTold_36 : decode cX10_cosineTold 36 = .ok (.lreturn, 1) := by decide +kernel
theorem dX10_cosineTold_37 : decode cX10_cosineTold 37 = .ok (.iload_n 2, 1) := by decide +kernel
theorem dX10_cosineTold_38 : decode cX10_cosineTold 38 = .ok (.ifCond .eq 13, 3) := by decide +kernel
theorem dX10_cosineTold_41 : decode cX10_cosineTold 41 = .ok (.aload_n 0, 1) := by decide +kernel
theorem dX10_cosineTold_42 : decode cX10_cosineTold 42 = .ok (.getfield 33, 3) := by decide +kernel
theorem dX10_cosineTold_45 : decode cX10_cosineTold 45 = .ok (.invokevirtual 249, 3) := by decide +kernel
theorem dX10_cosineTold_48 : decode cX10_cosineTold 48 = .ok (.goto 10, 3) := by decide +kernel
theorem dX10_cosineTold_51 : decode cX10_cosineTold 51 = .ok (.aload_n 0, 1) := by decide +kernel
theorem dX10_cosineTold_52 : decode cX10_cosineTold 52 = .ok (.getfield 33, 3) := by decide +kernel
theorem dX10_cosineTold_55 : decode cX10_cosineTold 55 = .ok (.invokevirtual 252, 3) := by decide +kernel
theorem dX10_cosineTold_58 : decode cX10_cosineTold 58 = .ok (.istore 4, 2) := by decide +kernel
theorem dX10_cosineTold_60 : decode cX10_cosineTold 60 = .ok (.iload 4, 2) := by decide +kernel
theorem dX10_cosineTold_62 : decode cX10_cosineTold 62 = .ok (.i2l, 1) := by decide +kernel
theorem dX10_cosineTold_63 : decode cX10_cosineTold 63 = .ok (.aload_n 0, 1) := by decide +kernel
theorem dX10_cosineTold_64 : decode cX10_cosineTold 64 = .ok (.getfield 33, 3) := by decide +kernel
theorem dX10_cosineTold_67 : decode cX10_cosineTold 67 = .ok (.invokevirtual 398, 3) := by decide +kernel
theorem dX10_cosineTold_70 : decode cX10_cosineTold 70 = .ok (.i2l, 1) := by decide +kernel
theorem dX10_cosineTold_71 : decode cX10_cosineTold 71 = .ok (.iload_n 3, 1) := by decide +kernel
theorem dX10_cosineTold_72 : decode cX10_cosineTold 72 = .ok (.invokestatic 188, 3) := by decide +kernel
theorem dX10_cosineTold_75 : decode cX10_cosineTold 75 = .ok (.lreturn, 1) := by decide +kernel
theorem dX10_countFrom_0 : decode cX10_countFrom 0 = .ok (.aload_n 0, 1) := by decide +kernel
theorem dX10_countFrom_1 : decode cX10_countFrom 1 = .ok (.iload_n 1, 1) := by decide +kernel
theorem dX10_countFrom_2 : decode cX10_countFrom 2 = .ok (.invokevirtual 140, 3) := by decide +kernel
theorem dX10_countFrom_5 : decode cX10_countFrom 5 = .ok (.pop, 1) := by decide +kernel
theorem dX10_countFrom_6 : decode cX10_countFrom 6 = .ok (.iconst 0, 1) := by decide +kernel
theorem dX10_countFrom_7 : decode cX10_countFrom 7 = .ok (.istore_n 3, 1) := by decide +kernel
theorem dX10_countFrom_8 : decode cX10_countFrom 8 = .ok (.iconst 0, 1) := by decide +kernel
theorem dX10_countFrom_9 : decode cX10_countFrom 9 = .ok (.istore 4, 2) := by decide +kernel
theorem dX10_countFrom_11 : decode cX10_countFrom 11 = .ok (.iload 4, 2) := by decide +kernel
theorem dX10_countFrom_13 : decode cX10_countFrom 13 = .ok (.bipush 40, 2) := by decide +kernel
theorem dX10_countFrom_15 : decode cX10_countFrom 15 = .ok (.if_icmp .ge 36, 3) := by decide +kernel
theorem dX10_countFrom_18 : decode cX10_countFrom 18 = .ok (.aload_n 0, 1) := by decide +kernel
theorem dX10_countFrom_19 : decode cX10_countFrom 19 = .ok (.getfield 40, 3) := by decide +kernel
theorem dX10_countFrom_22 : decode cX10_countFrom 22 = .ok (.aload_n 0, 1) := by decide +kernel
theorem dX10_countFrom_23 : decode cX10_countFrom 23 = .ok (.getfield 33, 3) := by decide +kernel
theorem dX10_countFrom_26 : decode cX10_countFrom 26 = .ok (.iload 4, 2) := by decide +kernel
theorem dX10_countFrom_28 : decode cX10_countFrom 28 = .ok (.invokevirtual 236, 3) := by decide +kernel
theorem dX10_countFrom_31 : decode cX10_countFrom 31 = .ok (.aload_n 0, 1) := by decide +kernel
theorem dX10_countFrom_32 : decode cX10_countFrom 32 = .ok (.getfield 40, 3) := by decide +kernel
theorem dX10_countFrom_35 : decode cX10_countFrom 35 = .ok (.invokevirtual 170, 3) := by decide +kernel
theorem dX10_countFrom_38 : decode cX10_countFrom 38 = .ok (.iload_n 2, 1) := by decide +kernel
theorem dX10_countFrom_39 : decode cX10_countFrom 39 = .ok (.if_icmp .lt 6, 3) := by decide +kernel
theorem dX10_countFrom_42 : decode cX10_countFrom 42 = .ok (.iinc 3 1, 3) := by decide +kernel
theorem dX10_countFrom_45 : decode cX10_countFrom 45 = .ok (.iinc 4 1, 3) := by decide +kernel
theorem dX10_countFrom_48 : decode cX10_countFrom 48 = .ok (.goto (-37), 3) := by decide +kernel
theorem dX10_countFrom_51 : decode cX10_countFrom 51 = .ok (.iload_n 3, 1) := by decide +kernel
theorem dX10_countFrom_52 : decode cX10_countFrom 52 = .ok (.ireturn, 1) := by decide +kernel
theorem dX10_refusesRun_0 : decode cX10_refusesRun 0 = .ok (.aload_n 0, 1) := by decide +kernel
theorem dX10_refusesRun_1 : decode cX10_refusesRun 1 = .ok (.aload_n 0, 1) := by decide +kernel
theorem dX10_refusesRun_2 : decode cX10_refusesRun 2 = .ok (.iload_n 1, 1) := by decide +kernel
theorem dX10_refusesRun_3 : decode cX10_refusesRun 3 = .ok (.iload_n 2, 1) := by decide +kernel
theorem dX10_refusesRun_4 : decode cX10_refusesRun 4 = .ok (.iload_n 3, 1) := by decide +kernel
theorem dX10_refusesRun_5 : decode cX10_refusesRun 5 = .ok (.invokevirtual 266, 3) := by decide +kernel
theorem dX10_refusesRun_8 : decode cX10_refusesRun 8 = .ok (.iconst 1, 1) := by decide +kernel
theorem dX10_refusesRun_9 : decode cX10_refusesRun 9 = .ok (.invokevirtual 84, 3) := by decide +kernel
theorem dX10_refusesRun_12 : decode cX10_refusesRun 12 = .ok (.ifCond .ne 28, 3) := by decide +kernel
theorem dX10_refusesRun_15 : decode cX10_refusesRun 15 = .ok (.aload_n 0, 1) := by decide +kernel
theorem dX10_refusesRun_16 : decode cX10_refusesRun 16 = .ok (.iload 4, 2) := by decide +kernel
theorem dX10_refusesRun_18 : decode cX10_refusesRun 18 = .ok (.ifCond .lt 14, 3) := by decide +kernel
theorem dX10_refusesRun_21 : decode cX10_refusesRun 21 = .ok (.iload 4, 2) := by decide +kernel
theorem dX10_refusesRun_23 : decode cX10_refusesRun 23 = .ok (.bipush 100, 2) := by decide +kernel
theorem dX10_refusesRun_25 : decode cX10_refusesRun 25 = .ok (.if_icmp .gt 7, 3) := by decide +kernel
theorem dX10_refusesRun_28 : decode cX10_refusesRun 28 = .ok (.iconst 1, 1) := by decide +kernel
theorem dX10_refusesRun_29 : decode cX10_refusesRun 29 = .ok (.goto 4, 3) := by decide +kernel
theorem dX10_refusesRun_32 : decode cX10_refusesRun 32 = .ok (.iconst 0, 1) := by decide +kernel
theorem dX10_refusesRun_33 : decode cX10_refusesRun 33 = .ok (.iconst 2, 1) := by decide +kernel
theorem dX10_refusesRun_34 : decode cX10_refusesRun 34 = .ok (.invokevirtual 84, 3) := by decide +kernel
theorem dX10_refusesRun_37 : decode cX10_refusesRun 37 = .ok (.ifCond .eq 5, 3) := by decide +kernel
theorem dX10_refusesRun_40 : decode cX10_refusesRun 40 = .ok (.iconst 1, 1) := by decide +kernel
theorem dX10_refusesRun_41 : decode cX10_refusesRun 41 = .ok (.ireturn, 1) := by decide +kernel
theorem dX10_refusesRun_42 : decode cX10_refusesRun 42 = .ok (.aload_n 0, 1) := by decide +kernel
theorem dX10_refusesRun_43 : decode cX10_refusesRun 43 = .ok (.iload_n 1, 1) := by decide +kernel
theorem dX10_refusesRun_44 : decode cX10_refusesRun 44 = .ok (.iload_n 2, 1) := by decide +kernel
theorem dX10_refusesRun_45 : decode cX10_refusesRun 45 = .ok (.iload_n 3, 1) := by decide +kernel
theorem dX10_refusesRun_46 : decode cX10_refusesRun 46 = .ok (.invokevirtual 269, 3) := by decide +kernel
theorem dX10_refusesRun_49 : decode cX10_refusesRun 49 = .ok (.iload 4, 2) := by decide +kernel
theorem dX10_refusesRun_51 : decode cX10_refusesRun 51 = .ok (.invokevirtual 401, 3) := by decide +kernel
theorem dX10_refusesRun_54 : decode cX10_refusesRun 54 = .ok (.iconst 0, 1) := by decide +kernel
theorem dX10_refusesRun_55 : decode cX10_refusesRun 55 = .ok (.ireturn, 1) := by decide +kernel
theorem dX10_refusesFit_0 : decode cX10_refusesFit 0 = .ok (.aload_n 0, 1) := by decide +kernel
theorem dX10_refusesFit_1 : decode cX10_refusesFit 1 = .ok (.aload_n 0, 1) := by decide +kernel
theorem dX10_refusesFit_2 : decode cX10_refusesFit 2 = .ok (.iconst 0, 1) := by decide +kernel
theorem dX10_refusesFit_3 : decode cX10_refusesFit 3 = .ok (.invokevirtual 133, 3) := by decide +kernel
theorem dX10_refusesFit_6 : decode cX10_refusesFit 6 = .ok (.ifCond .eq 11, 3) := by decide +kernel
theorem dX10_refusesFit_9 : decode cX10_refusesFit 9 = .ok (.iload_n 1, 1) := by decide +kernel
theorem dX10_refusesFit_10 : decode cX10_refusesFit 10 = .ok (.ifCond .eq 7, 3) := by decide +kernel
theorem dX10_refusesFit_13 : decode cX10_refusesFit 13 = .ok (.iconst 1, 1) := by decide +kernel
theorem dX10_refusesFit_14 : decode cX10_refusesFit 14 = .ok (.goto 4, 3) := by decide +kernel
theorem dX10_refusesFit_17 : decode cX10_refusesFit 17 = .ok (.iconst 0, 1) := by decide +kernel
theorem dX10_refusesFit_18 : decode cX10_refusesFit 18 = .ok (.iconst 1, 1) := by decide +kernel
theorem dX10_refusesFit_19 : decode cX10_refusesFit 19 = .ok (.invokevirtual 84, 3) := by decide +kernel
theorem dX10_refusesFit_22 : decode cX10_refusesFit 22 = .ok (.ifCond .ne 27, 3) := by decide +kernel
theorem dX10_refusesFit_25 : decode cX10_refusesFit 25 = .ok (.aload_n 0, 1) := by decide +kernel
theorem dX10_refusesFit_26 : decode cX10_refusesFit 26 = .ok (.aload_n 0, 1) := by decide +kernel
theorem dX10_refusesFit_27 : decode cX10_refusesFit 27 = .ok (.getfield 23, 3) := by decide +kernel
theorem dX10_refusesFit_30 : decode cX10_refusesFit 30 = .ok (.iconst 3, 1) := by decide +kernel
theorem dX10_refusesFit_31 : decode cX10_refusesFit 31 = .ok (.invokevirtual 102, 3) := by decide +kernel
theorem dX10_refusesFit_34 : decode cX10_refusesFit 34 = .ok (.ifCond .le 7, 3) := by decide +kernel
theorem dX10_refusesFit_37 : decode cX10_refusesFit 37 = .ok (.iconst 1, 1) := by decide +kernel
theorem dX10_refusesFit_38 : decode cX10_refusesFit 38 = .ok (.goto 4, 3) := by decide +kernel
theorem dX10_refusesFit_41 : decode cX10_refusesFit 41 = .ok (.iconst 0, 1) := by decide +kernel
theorem dX10_refusesFit_42 : decode cX10_refusesFit 42 = .ok (.iconst 5, 1) := by decide +kernel
theorem dX10_refusesFit_43 : decode cX10_refusesFit 43 = .ok (.invokevirtual 84, 3) := by decide +kernel
theorem dX10_refusesFit_46 : decode cX10_refusesFit 46 = .ok (.ifCond .eq 5, 3) := by decide +kernel
theorem dX10_refusesFit_49 : decode cX10_refusesFit 49 = .ok (.iconst 1, 1) := by decide +kernel
theorem dX10_refusesFit_50 : decode cX10_refusesFit 50 = .ok (.ireturn, 1) := by decide +kernel
theorem dX10_refusesFit_51 : decode cX10_refusesFit 51 = .ok (.aload_n 0, 1) := by decide +kernel
theorem dX10_refusesFit_52 : decode cX10_refusesFit 52 = .ok (.getfield 54, 3) := by decide +kernel
theorem dX10_refusesFit_55 : decode cX10_refusesFit 55 = .ok (.aload_n 0, 1) := by decide +kernel
theorem dX10_refusesFit_56 : decode cX10_refusesFit 56 = .ok (.getfield 23, 3) := by decide +kernel
theorem dX10_refusesFit_59 : decode cX10_refusesFit 59 = .ok (.iconst 0, 1) := by decide +kernel
theorem dX10_refusesFit_60 : decode cX10_refusesFit 60 = .ok (.iconst 0, 1) := by decide +kernel
theorem dX10_refusesFit_61 : decode cX10_refusesFit 61 = .ok (.iconst 0, 1) := by decide +kernel
theorem dX10_refusesFit_62 : decode cX10_refusesFit 62 = .ok (.invokevirtual 136, 3) := by decide +kernel
theorem dX10_refusesFit_65 : decode cX10_refusesFit 65 = .ok (.invokevirtual 404, 3) := by decide +kernel
theorem dX10_refusesFit_68 : decode cX10_refusesFit 68 = .ok (.iconst 0, 1) := by decide +kernel
theorem dX10_refusesFit_69 : decode cX10_refusesFit 69 = .ok (.ireturn, 1) := by decide +kernel
theorem dX10_missesOf_0 : decode cX10_missesOf 0 = .ok (.aload_n 0, 1) := by decide +kernel
theorem dX10_missesOf_1 : decode cX10_missesOf 1 = .ok (.iload_n 1, 1) := by decide +kernel
theorem dX10_missesOf_2 : decode cX10_missesOf 2 = .ok (.iload_n 2, 1) := by decide +kernel
theorem dX10_missesOf_3 : decode cX10_missesOf 3 = .ok (.iload_n 3, 1) := by decide +kernel
theorem dX10_missesOf_4 : decode cX10_missesOf 4 = .ok (.invokevirtual 269, 3) := by decide +kernel
theorem dX10_missesOf_7 : decode cX10_missesOf 7 = .ok (.pop, 1) := by decide +kernel
theorem dX10_missesOf_8 : decode cX10_missesOf 8 = .ok (.iconst 0, 1) := by decide +kernel
theorem dX10_missesOf_9 : decode cX10_missesOf 9 = .ok (.istore 4, 2) := by decide +kernel
theorem dX10_missesOf_11 : decode cX10_missesOf 11 = .ok (.iconst 0, 1) := by decide +kernel
theorem dX10_missesOf_12 : decode cX10_missesOf 12 = .ok (.istore 5, 2) := by decide +kernel
theorem dX10_missesOf_14 : decode cX10_missesOf 14 = .ok (.iload 5, 2) := by decide +kernel
theorem dX10_missesOf_16 : decode cX10_missesOf 16 = .ok (.aload_n 0, 1) := by decide +kernel
theorem dX10_missesOf_17 : decode cX10_missesOf 17 = .ok (.getfield 23, 3) := by decide +kernel
theorem dX10_missesOf_20 : decode cX10_missesOf 20 = .ok (.iconst 2, 1) := by decide +kernel
theorem dX10_missesOf_21 : decode cX10_missesOf 21 = .ok (.invokevirtual 102, 3) := by decide +kernel
theorem dX10_missesOf_24 : decode cX10_missesOf 24 = .ok (.if_icmp .ge 43, 3) := by decide +kernel
theorem dX10_missesOf_27 : decode cX10_missesOf 27 = .ok (.iload 4, 2) := by decide +kernel
theorem dX10_missesOf_29 : decode cX10_missesOf 29 = .ok (.aload_n 0, 1) := by decide +kernel
theorem dX10_missesOf_30 : decode cX10_missesOf 30 = .ok (.getfield 47, 3) := by decide +kernel
theorem dX10_missesOf_33 : decode cX10_missesOf 33 = .ok (.aload_n 0, 1) := by decide +kernel
theorem dX10_missesOf_34 : decode cX10_missesOf 34 = .ok (.getfield 23, 3) := by decide +kernel
theorem dX10_missesOf_37 : decode cX10_missesOf 37 = .ok (.iconst 2, 1) := by decide +kernel
theorem dX10_missesOf_38 : decode cX10_missesOf 38 = .ok (.iload 5, 2) := by decide +kernel
theorem dX10_missesOf_40 : decode cX10_missesOf 40 = .ok (.iconst 0, 1) := by decide +kernel
theorem dX10_missesOf_41 : decode cX10_missesOf 41 = .ok (.invokevirtual 136, 3) := by decide +kernel
theorem dX10_missesOf_44 : decode cX10_missesOf 44 = .ok (.aload_n 0, 1) := by decide +kernel
theorem dX10_missesOf_45 : decode cX10_missesOf 45 = .ok (.getfield 23, 3) := by decide +kernel
theorem dX10_missesOf_48 : decode cX10_missesOf 48 = .ok (.iconst 2, 1) := by decide +kernel
theorem dX10_missesOf_49 : decode cX10_missesOf 49 = .ok (.iload 5, 2) := by decide +kernel
theorem dX10_missesOf_51 : decode cX10_missesOf 51 = .ok (.iconst 1, 1) := by decide +kernel
theorem dX10_missesOf_52 : decode cX10_missesOf 52 = .ok (.invokevirtual 136, 3) := by decide +kernel
theorem dX10_missesOf_55 : decode cX10_missesOf 55 = .ok (.invokevirtual 308, 3) := by decide +kernel
theorem dX10_missesOf_58 : decode cX10_missesOf 58 = .ok (.iadd, 1) := by decide +kernel
theorem dX10_missesOf_59 : decode cX10_missesOf 59 = .ok (.istore 4, 2) := by decide +kernel
theorem dX10_missesOf_61 : decode cX10_missesOf 61 = .ok (.iinc 5 1, 3) := by decide +kernel
theorem dX10_missesOf_64 : decode cX10_missesOf 64 = .ok (.goto (-50), 3) := by decide +kernel
theorem dX10_missesOf_67 : decode cX10_missesOf 67 = .ok (.iload 4, 2) := by decide +kernel
theorem dX10_missesOf_69 : decode cX10_missesOf 69 = .ok (.ireturn, 1) := by decide +kernel

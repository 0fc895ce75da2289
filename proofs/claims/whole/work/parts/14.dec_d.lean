/-! decode rows -/
theorem dX11_thrown_0 : decode cX11_thrown 0 = .ok (.aload_n 0, 1) := by decide +kernel
theorem dX11_thrown_1 : decode cX11_thrown 1 = .ok (.getfield 1, 3) := by decide +kernel
theorem dX11_thrown_4 : decode cX11_thrown 4 = .ok (.ireturn, 1) := by decide +kernel
theorem dX11_plain_0 : decode cX11_plain 0 = .ok (.lload_n 0, 1) := by decide +kernel
theorem dX11_plain_1 : decode cX11_plain 1 = .ok (.lconst 0, 1) := by decide +kernel
theorem dX11_plain_2 : decode cX11_plain 2 = .ok (.lcmp, 1) := by decide +kernel
theorem dX11_plain_3 : decode cX11_plain 3 = .ok (.ifCond .ge 8, 3) := by decide +kernel
theorem dX11_plain_6 : decode cX11_plain 6 = .ok (.lload_n 0, 1) := by decide +kernel
theorem dX11_plain_7 : decode cX11_plain 7 = .ok (.lneg, 1) := by decide +kernel
theorem dX11_plain_8 : decode cX11_plain 8 = .ok (.goto 4, 3) := by decide +kernel
theorem dX11_plain_11 : decode cX11_plain 11 = .ok (.lload_n 0, 1) := by decide +kernel
theorem dX11_plain_12 : decode cX11_plain 12 = .ok (.lreturn, 1) := by decide +kernel
theorem dX11_no_0 : decode cX11_no 0 = .ok (.aload_n 0, 1) := by decide +kernel
theorem dX11_no_1 : decode cX11_no 1 = .ok (.iload_n 1, 1) := by decide +kernel
theorem dX11_no_2 : decode cX11_no 2 = .ok (.putfield 11, 3) := by decide +kernel
theorem dX11_no_5 : decode cX11_no 5 = .ok (.iconst (-1), 1) := by decide +kernel
theorem dX11_no_6 : decode cX11_no 6 = .ok (.ireturn, 1) := by decide +kernel
theorem dX11_nothing_0 : decode cX11_nothing 0 = .ok (.aload_n 0, 1) := by decide +kernel
theorem dX11_nothing_1 : decode cX11_nothing 1 = .ok (.iload_n 1, 1) := by decide +kernel
theorem dX11_nothing_2 : decode cX11_nothing 2 = .ok (.putfield 11, 3) := by decide +kernel
theorem dX11_nothing_5 : decode cX11_nothing 5 = .ok (.ldc 17, 2) := by decide +kernel
theorem dX11_nothing_7 : decode cX11_nothing 7 = .ok (.ireturn, 1) := by decide +kernel
theorem dX11_lowest_0 : decode cX11_lowest 0 = .ok (.aload_n 0, 1) := by decide +kernel
theorem dX11_lowest_1 : decode cX11_lowest 1 = .ok (.iload_n 1, 1) := by decide +kernel
theorem dX11_lowest_2 : decode cX11_lowest 2 = .ok (.putfield 11, 3) := by decide +kernel
theorem dX11_lowest_5 : decode cX11_lowest 5 = .ok (.ldc2_w 20, 3) := by decide +kernel
theorem dX11_lowest_8 : decode cX11_lowest 8 = .ok (.lreturn, 1) := by decide +kernel
theorem dX11_part_0 : decode cX11_part 0 = .ok (.lload_n 1, 1) := by decide +kernel
theorem dX11_part_1 : decode cX11_part 1 = .ok (.lload_n 3, 1) := by decide +kernel
theorem dX11_part_2 : decode cX11_part 2 = .ok (.invokestatic 22, 3) := by decide +kernel
theorem dX11_part_5 : decode cX11_part 5 = .ok (.lstore 6, 2) := by decide +kernel
theorem dX11_part_7 : decode cX11_part 7 = .ok (.iload 5, 2) := by decide +kernel
theorem dX11_part_9 : decode cX11_part 9 = .ok (.ifCond .eq 10, 3) := by decide +kernel
theorem dX11_part_12 : decode cX11_part 12 = .ok (.lload_n 3, 1) := by decide +kernel
theorem dX11_part_13 : decode cX11_part 13 = .ok (.invokestatic 7, 3) := by decide +kernel
theorem dX11_part_16 : decode cX11_part 16 = .ok (.goto 15, 3) := by decide +kernel
theorem dX11_part_19 : decode cX11_part 19 = .ok (.lload_n 3, 1) := by decide +kernel
theorem dX11_part_20 : decode cX11_part 20 = .ok (.lconst 0, 1) := by decide +kernel
theorem dX11_part_21 : decode cX11_part 21 = .ok (.lcmp, 1) := by decide +kernel
theorem dX11_part_22 : decode cX11_part 22 = .ok (.ifCond .ge 8, 3) := by decide +kernel
theorem dX11_part_25 : decode cX11_part 25 = .ok (.lload_n 1, 1) := by decide +kernel
theorem dX11_part_26 : decode cX11_part 26 = .ok (.lneg, 1) := by decide +kernel
theorem dX11_part_27 : decode cX11_part 27 = .ok (.goto 4, 3) := by decide +kernel
theorem dX11_part_30 : decode cX11_part 30 = .ok (.lload_n 1, 1) := by decide +kernel
theorem dX11_part_31 : decode cX11_part 31 = .ok (.lstore 8, 2) := by decide +kernel
theorem dX11_part_33 : decode cX11_part 33 = .ok (.lload 8, 2) := by decide +kernel
theorem dX11_part_35 : decode cX11_part 35 = .ok (.lload 6, 2) := by decide +kernel
theorem dX11_part_37 : decode cX11_part 37 = .ok (.ldiv, 1) := by decide +kernel
theorem dX11_part_38 : decode cX11_part 38 = .ok (.lreturn, 1) := by decide +kernel
theorem dX11_puts_0 : decode cX11_puts 0 = .ok (.aload_n 0, 1) := by decide +kernel
theorem dX11_puts_1 : decode cX11_puts 1 = .ok (.getfield 101, 3) := by decide +kernel
theorem dX11_puts_4 : decode cX11_puts 4 = .ok (.istore_n 3, 1) := by decide +kernel
theorem dX11_puts_5 : decode cX11_puts 5 = .ok (.iload_n 3, 1) := by decide +kernel
theorem dX11_puts_6 : decode cX11_puts 6 = .ok (.ifCond .le 60, 3) := by decide +kernel
theorem dX11_puts_9 : decode cX11_puts 9 = .ok (.iload_n 1, 1) := by decide +kernel
theorem dX11_puts_10 : decode cX11_puts 10 = .ok (.aload_n 0, 1) := by decide +kernel
theorem dX11_puts_11 : decode cX11_puts 11 = .ok (.getfield 36, 3) := by decide +kernel
theorem dX11_puts_14 : decode cX11_puts 14 = .ok (.iload_n 3, 1) := by decide +kernel
theorem dX11_puts_15 : decode cX11_puts 15 = .ok (.iconst 1, 1) := by decide +kernel
theorem dX11_puts_16 : decode cX11_puts 16 = .ok (.isub, 1) := by decide +kernel
theorem dX11_puts_17 : decode cX11_puts 17 = .ok (.iaload, 1) := by decide +kernel
theorem dX11_puts_18 : decode cX11_puts 18 = .ok (.imul, 1) := by decide +kernel
theorem dX11_puts_19 : decode cX11_puts 19 = .ok (.aload_n 0, 1) := by decide +kernel
theorem dX11_puts_20 : decode cX11_puts 20 = .ok (.getfield 32, 3) := by decide +kernel
theorem dX11_puts_23 : decode cX11_puts 23 = .ok (.iload_n 3, 1) := by decide +kernel
theorem dX11_puts_24 : decode cX11_puts 24 = .ok (.iconst 1, 1) := by decide +kernel
theorem dX11_puts_25 : decode cX11_puts 25 = .ok (.isub, 1) := by decide +kernel
theorem dX11_puts_26 : decode cX11_puts 26 = .ok (.iaload, 1) := by decide +kernel
theorem dX11_puts_27 : decode cX11_puts 27 = .ok (.iload_n 2, 1) := by decide +kernel
theorem dX11_puts_28 : decode cX11_puts 28 = .ok (.imul, 1) := by decide +kernel
theorem dX11_puts_29 : decode cX11_puts 29 = .ok (.if_icmp .ge 37, 3) := by decide +kernel
theorem dX11_puts_32 : decode cX11_puts 32 = .ok (.aload_n 0, 1) := by decide +kernel
theorem dX11_puts_33 : decode cX11_puts 33 = .ok (.getfield 32, 3) := by decide +kernel
theorem dX11_puts_36 : decode cX11_puts 36 = .ok (.iload_n 3, 1) := by decide +kernel
theorem dX11_puts_37 : decode cX11_puts 37 = .ok (.aload_n 0, 1) := by decide +kernel
theorem dX11_puts_38 : decode cX11_puts 38 = .ok (.getfield 32, 3) := by decide +kernel
theorem dX11_puts_41 : decode cX11_puts 41 = .ok (.iload_n 3, 1) := by decide +kernel
theorem dX11_puts_42 : decode cX11_puts 42 = .ok (.iconst 1, 1) := by decide +kernel
theorem dX11_puts_43 : decode cX11_puts 43 = .ok (.isub, 1) := by decide +kernel
theorem dX11_puts_44 : decode cX11_puts 44 = .ok (.iaload, 1) := by decide +kernel
theorem dX11_puts_45 : decode cX11_puts 45 = .ok (.iastore, 1) := by decide +kernel
theorem dX11_puts_46 : decode cX11_puts 46 = .ok (.aload_n 0, 1) := by decide +kernel
theorem dX11_puts_47 : decode cX11_puts 47 = .ok (.getfield 36, 3) := by decide +kernel
theorem dX11_puts_50 : decode cX11_puts 50 = .ok (.iload_n 3, 1) := by decide +kernel
theorem dX11_puts_51 : decode cX11_puts 51 = .ok (.aload_n 0, 1) := by decide +kernel
theorem dX11_puts_52 : decode cX11_puts 52 = .ok (.getfield 36, 3) := by decide +kernel
theorem dX11_puts_55 : decode cX11_puts 55 = .ok (.iload_n 3, 1) := by decide +kernel
theorem dX11_puts_56 : decode cX11_puts 56 = .ok (.iconst 1, 1) := by decide +kernel
theorem dX11_puts_57 : decode cX11_puts 57 = .ok (.isub, 1) := by decide +kernel
theorem dX11_puts_58 : decode cX11_puts 58 = .ok (.iaload, 1) := by decide +kernel
theorem dX11_puts_59 : decode cX11_puts 59 = .ok (.iastore, 1) := by decide +kernel
theorem dX11_puts_60 : decode cX11_puts 60 = .ok (.iinc 3 (-1), 3) := by decide +kernel
theorem dX11_puts_63 : decode cX11_puts 63 = .ok (.goto (-58), 3) := by decide +kernel
theorem dX11_puts_66 : decode cX11_puts 66 = .ok (.aload_n 0, 1) := by decide +kernel
theorem dX11_puts_67 : decode cX11_puts 67 = .ok (.getfield 32, 3) := by decide +kernel
theorem dX11_puts_70 : decode cX11_puts 70 = .ok (.iload_n 3, 1) := by decide +kernel
theorem dX11_puts_71 : decode cX11_puts 71 = .ok (.iload_n 1, 1) := by decide +kernel
theorem dX11_puts_72 : decode cX11_puts 72 = .ok (.iastore, 1) := by decide +kernel
theorem dX11_puts_73 : decode cX11_puts 73 = .ok (.aload_n 0, 1) := by decide +kernel
theorem dX11_puts_74 : decode cX11_puts 74 = .ok (.getfield 36, 3) := by decide +kernel
theorem dX11_puts_77 : decode cX11_puts 77 = .ok (.iload_n 3, 1) := by decide +kernel
theorem dX11_puts_78 : decode cX11_puts 78 = .ok (.iload_n 2, 1) := by decide +kernel
theorem dX11_puts_79 : decode cX11_puts 79 = .ok (.iastore, 1) := by decide +kernel
theorem dX11_puts_80 : decode cX11_puts 80 = .ok (.aload_n 0, 1) := by decide +kernel
theorem dX11_puts_81 : decode cX11_puts 81 = .ok (.dup, 1) := by decide +kernel
theorem dX11_puts_82 : decode cX11_puts 82 = .ok (.getfield 101, 3) := by decide +kernel
theorem dX11_puts_85 : decode cX11_puts 85 = .ok (.iconst 1, 1) := by decide +kernel
theorem dX11_puts_86 : decode cX11_puts 86 = .ok (.iadd, 1) := by decide +kernel
theorem dX11_puts_87 : decode cX11_puts 87 = .ok (.putfield 101, 3) := by decide +kernel
theorem dX11_puts_90 : decode cX11_puts 90 = .ok (.return_, 1) := by decide +kernel
theorem dX11_which_0 : decode cX11_which 0 = .ok (.aload_n 0, 1) := by decide +kernel
theorem dX11_which_1 : decode cX11_which 1 = .ok (.invokevirtual 104, 3) := by decide +kernel
theorem dX11_which_4 : decode cX11_which 4 = .ok (.iload_n 1, 1) := by decide +kernel
theorem dX11_which_5 : decode cX11_which 5 = .ok (.bipush (-5), 2) := by decide +kernel
theorem dX11_which_7 : decode cX11_which 7 = .ok (.iconst 5, 1) := by decide +kernel
theorem dX11_which_8 : decode cX11_which 8 = .ok (.invokestatic 107, 3) := by decide +kernel
theorem dX11_which_11 : decode cX11_which 11 = .ok (.ifCond .eq 21, 3) := by decide +kernel
theorem dX11_which_14 : decode cX11_which 14 = .ok (.iload_n 2, 1) := by decide +kernel
theorem dX11_which_15 : decode cX11_which 15 = .ok (.bipush (-5), 2) := by decide +kernel
theorem dX11_which_17 : decode cX11_which 17 = .ok (.iconst 5, 1) := by decide +kernel
theorem dX11_which_18 : decode cX11_which 18 = .ok (.invokestatic 107, 3) := by decide +kernel
theorem dX11_which_21 : decode cX11_which 21 = .ok (.ifCond .eq 11, 3) := by decide +kernel
theorem dX11_which_24 : decode cX11_which 24 = .ok (.iload_n 1, 1) := by decide +kernel
theorem dX11_which_25 : decode cX11_which 25 = .ok (.ifCond .ne 13, 3) := by decide +kernel
theorem dX11_which_28 : decode cX11_which 28 = .ok (.iload_n 2, 1) := by decide +kernel
theorem dX11_which_29 : decode cX11_which 29 = .ok (.ifCond .ne 9, 3) := by decide +kernel
theorem dX11_which_32 : decode cX11_which 32 = .ok (.aload_n 0, 1) := by decide +kernel
theorem dX11_which_33 : decode cX11_which 33 = .ok (.iconst 2, 1) := by decide +kernel
theorem dX11_which_34 : decode cX11_which 34 = .ok (.invokevirtual 115, 3) := by decide +kernel
theorem dX11_which_37 : decode cX11_which 37 = .ok (.ireturn, 1) := by decide +kernel
theorem dX11_which_38 : decode cX11_which 38 = .ok (.iconst 0, 1) := by decide +kernel
theorem dX11_which_39 : decode cX11_which 39 = .ok (.istore_n 3, 1) := by decide +kernel
theorem dX11_which_40 : decode cX11_which 40 = .ok (.iload_n 1, 1) := by decide +kernel
theorem dX11_which_41 : decode cX11_which 41 = .ok (.aload_n 0, 1) := by decide +kernel
theorem dX11_which_42 : decode cX11_which 42 = .ok (.getfield 36, 3) := by decide +kernel
theorem dX11_which_45 : decode cX11_which 45 = .ok (.iload_n 3, 1) := by decide +kernel
theorem dX11_which_46 : decode cX11_which 46 = .ok (.iaload, 1) := by decide +kernel
theorem dX11_which_47 : decode cX11_which 47 = .ok (.imul, 1) := by decide +kernel
theorem dX11_which_48 : decode cX11_which 48 = .ok (.aload_n 0, 1) := by decide +kernel
theorem dX11_which_49 : decode cX11_which 49 = .ok (.getfield 32, 3) := by decide +kernel
theorem dX11_which_52 : decode cX11_which 52 = .ok (.iload_n 3, 1) := by decide +kernel
theorem dX11_which_53 : decode cX11_which 53 = .ok (.iaload, 1) := by decide +kernel
theorem dX11_which_54 : decode cX11_which 54 = .ok (.iload_n 2, 1) := by decide +kernel
theorem dX11_which_55 : decode cX11_which 55 = .ok (.imul, 1) := by decide +kernel
theorem dX11_which_56 : decode cX11_which 56 = .ok (.if_icmp .eq 9, 3) := by decide +kernel
theorem dX11_which_59 : decode cX11_which 59 = .ok (.iinc 3 1, 3) := by decide +kernel
theorem dX11_which_62 : decode cX11_which 62 = .ok (.goto (-22), 3) := by decide +kernel
theorem dX11_which_65 : decode cX11_which 65 = .ok (.iload_n 3, 1) := by decide +kernel
theorem dX11_which_66 : decode cX11_which 66 = .ok (.ireturn, 1) := by decide +kernel
theorem dX11_laysWord_0 : decode cX11_laysWord 0 = .ok (.iconst 0, 1) := by decide +kernel
theorem dX11_laysWord_1 : decode cX11_laysWord 1 = .ok (.istore_n 2, 1) := by decide +kernel
theorem dX11_laysWord_2 : decode cX11_laysWord 2 = .ok (.iload_n 2, 1) := by decide +kernel
theorem dX11_laysWord_3 : decode cX11_laysWord 3 = .ok (.iconst 4, 1) := by decide +kernel
theorem dX11_laysWord_4 : decode cX11_laysWord 4 = .ok (.if_icmp .ge 33, 3) := by decide +kernel
theorem dX11_laysWord_7 : decode cX11_laysWord 7 = .ok (.aload_n 0, 1) := by decide +kernel
theorem dX11_laysWord_8 : decode cX11_laysWord 8 = .ok (.getfield 39, 3) := by decide +kernel
theorem dX11_laysWord_11 : decode cX11_laysWord 11 = .ok (.aload_n 0, 1) := by decide +kernel
theorem dX11_laysWord_12 : decode cX11_laysWord 12 = .ok (.getfield 118, 3) := by decide +kernel
theorem dX11_laysWord_15 : decode cX11_laysWord 15 = .ok (.iload_n 2, 1) := by decide +kernel
theorem dX11_laysWord_16 : decode cX11_laysWord 16 = .ok (.iadd, 1) := by decide +kernel
theorem dX11_laysWord_17 : decode cX11_laysWord 17 = .ok (.iload_n 1, 1) := by decide +kernel
theorem dX11_laysWord_18 : decode cX11_laysWord 18 = .ok (.bipush 24, 2) := by decide +kernel
theorem dX11_laysWord_20 : decode cX11_laysWord 20 = .ok (.bipush 8, 2) := by decide +kernel
theorem dX11_laysWord_22 : decode cX11_laysWord 22 = .ok (.iload_n 2, 1) := by decide +kernel
theorem dX11_laysWord_23 : decode cX11_laysWord 23 = .ok (.imul, 1) := by decide +kernel
theorem dX11_laysWord_24 : decode cX11_laysWord 24 = .ok (.isub, 1) := by decide +kernel
theorem dX11_laysWord_25 : decode cX11_laysWord 25 = .ok (.ishr, 1) := by decide +kernel
theorem dX11_laysWord_26 : decode cX11_laysWord 26 = .ok (.sipush 255, 3) := by decide +kernel
theorem dX11_laysWord_29 : decode cX11_laysWord 29 = .ok (.iand, 1) := by decide +kernel
theorem dX11_laysWord_30 : decode cX11_laysWord 30 = .ok (.iastore, 1) := by decide +kernel
theorem dX11_laysWord_31 : decode cX11_laysWord 31 = .ok (.iinc 2 1, 3) := by decide +kernel
theorem dX11_laysWord_34 : decode cX11_laysWord 34 = .ok (.goto (-32), 3) := by decide +kernel
theorem dX11_laysWord_37 : decode cX11_laysWord 37 = .ok (.aload_n 0, 1) := by decide +kernel
theorem dX11_laysWord_38 : decode cX11_laysWord 38 = .ok (.dup, 1) := by decide +kernel
theorem dX11_laysWord_39 : decode cX11_laysWord 39 = .ok (.getfield 118, 3) := by decide +kernel
theorem dX11_laysWord_42 : decode cX11_laysWord 42 = .ok (.iconst 4, 1) := by decide +kernel
theorem dX11_laysWord_43 : decode cX11_laysWord 43 = .ok (.iadd, 1) := by decide +kernel
theorem dX11_laysWord_44 : decode cX11_laysWord 44 = .ok (.putfield 118, 3) := by decide +kernel
theorem dX11_laysWord_47 : decode cX11_laysWord 47 = .ok (.return_, 1) := by decide +kernel
theorem dX11_see_0 : decode cX11_see 0 = .ok (.iload_n 1, 1) := by decide +kernel
theorem dX11_see_1 : decode cX11_see 1 = .ok (.aload_n 0, 1) := by decide +kernel
theorem dX11_see_2 : decode cX11_see 2 = .ok (.getfield 125, 3) := by decide +kernel
theorem dX11_see_5 : decode cX11_see 5 = .ok (.if_icmp .ge 12, 3) := by decide +kernel
theorem dX11_see_8 : decode cX11_see 8 = .ok (.aload_n 0, 1) := by decide +kernel
theorem dX11_see_9 : decode cX11_see 9 = .ok (.getfield 39, 3) := by decide +kernel
theorem dX11_see_12 : decode cX11_see 12 = .ok (.iload_n 1, 1) := by decide +kernel
theorem dX11_see_13 : decode cX11_see 13 = .ok (.iaload, 1) := by decide +kernel
theorem dX11_see_14 : decode cX11_see 14 = .ok (.goto 4, 3) := by decide +kernel
theorem dX11_see_17 : decode cX11_see 17 = .ok (.iconst (-1), 1) := by decide +kernel
theorem dX11_see_18 : decode cX11_see 18 = .ok (.ireturn, 1) := by decide +kernel
theorem dX11_isWord_0 : decode cX11_isWord 0 = .ok (.aload_n 0, 1) := by decide +kernel
theorem dX11_isWord_1 : decode cX11_isWord 1 = .ok (.getfield 137, 3) := by decide +kernel
theorem dX11_isWord_4 : decode cX11_isWord 4 = .ok (.iconst 2, 1) := by decide +kernel
theorem dX11_isWord_5 : decode cX11_isWord 5 = .ok (.if_icmp .ne 19, 3) := by decide +kernel
theorem dX11_isWord_8 : decode cX11_isWord 8 = .ok (.aload_n 0, 1) := by decide +kernel
theorem dX11_isWord_9 : decode cX11_isWord 9 = .ok (.getfield 128, 3) := by decide +kernel
theorem dX11_isWord_12 : decode cX11_isWord 12 = .ok (.aload_n 0, 1) := by decide +kernel
theorem dX11_isWord_13 : decode cX11_isWord 13 = .ok (.getfield 134, 3) := by decide +kernel
theorem dX11_isWord_16 : decode cX11_isWord 16 = .ok (.isub, 1) := by decide +kernel
theorem dX11_isWord_17 : decode cX11_isWord 17 = .ok (.aload_n 1, 1) := by decide +kernel
theorem dX11_isWord_18 : decode cX11_isWord 18 = .ok (.invokevirtual 143, 3) := by decide +kernel
theorem dX11_isWord_21 : decode cX11_isWord 21 = .ok (.if_icmp .eq 5, 3) := by decide +kernel
theorem dX11_isWord_24 : decode cX11_isWord 24 = .ok (.iconst 0, 1) := by decide +kernel
theorem dX11_isWord_25 : decode cX11_isWord 25 = .ok (.ireturn, 1) := by decide +kernel
theorem dX11_isWord_26 : decode cX11_isWord 26 = .ok (.iconst 0, 1) := by decide +kernel
theorem dX11_isWord_27 : decode cX11_isWord 27 = .ok (.istore_n 2, 1) := by decide +kernel
theorem dX11_isWord_28 : decode cX11_isWord 28 = .ok (.iload_n 2, 1) := by decide +kernel
theorem dX11_isWord_29 : decode cX11_isWord 29 = .ok (.aload_n 1, 1) := by decide +kernel
theorem dX11_isWord_30 : decode cX11_isWord 30 = .ok (.invokevirtual 143, 3) := by decide +kernel
theorem dX11_isWord_33 : decode cX11_isWord 33 = .ok (.if_icmp .ge 30, 3) := by decide +kernel
theorem dX11_isWord_36 : decode cX11_isWord 36 = .ok (.aload_n 0, 1) := by decide +kernel
theorem dX11_isWord_37 : decode cX11_isWord 37 = .ok (.getfield 39, 3) := by decide +kernel
theorem dX11_isWord_40 : decode cX11_isWord 40 = .ok (.aload_n 0, 1) := by decide +kernel
theorem dX11_isWord_41 : decode cX11_isWord 41 = .ok (.getfield 134, 3) := by decide +kernel
theorem dX11_isWord_44 : decode cX11_isWord 44 = .ok (.iload_n 2, 1) := by decide +kernel
theorem dX11_isWord_45 : decode cX11_isWord 45 = .ok (.iadd, 1) := by decide +kernel
theorem dX11_isWord_46 : decode cX11_isWord 46 = .ok (.iaload, 1) := by decide +kernel
theorem dX11_isWord_47 : decode cX11_isWord 47 = .ok (.aload_n 1, 1) := by decide +kernel
theorem dX11_isWord_48 : decode cX11_isWord 48 = .ok (.iload_n 2, 1) := by decide +kernel
theorem dX11_isWord_49 : decode cX11_isWord 49 = .ok (.invokevirtual 149, 3) := by decide +kernel
theorem dX11_isWord_52 : decode cX11_isWord 52 = .ok (.if_icmp .eq 5, 3) := by decide +kernel
theorem dX11_isWord_55 : decode cX11_isWord 55 = .ok (.iconst 0, 1) := by decide +kernel
theorem dX11_isWord_56 : decode cX11_isWord 56 = .ok (.ireturn, 1) := by decide +kernel
theorem dX11_isWord_57 : decode cX11_isWord 57 = .ok (.iinc 2 1, 3) := by decide +kernel
theorem dX11_isWord_60 : decode cX11_isWord 60 = .ok (.goto (-32), 3) := by decide +kernel
theorem dX11_isWord_63 : decode cX11_isWord 63 = .ok (.iconst 1, 1) := by decide +kernel
theorem dX11_isWord_64 : decode cX11_isWord 64 = .ok (.ireturn, 1) := by decide +kernel
theorem dX11_reads_0 : decode cX11_reads 0 = .ok (.aload_n 0, 1) := by decide +kernel
theorem dX11_reads_1 : decode cX11_reads 1 = .ok (.getfield 137, 3) := by decide +kernel
theorem dX11_reads_4 : decode cX11_reads 4 = .ok (.iconst 3, 1) := by decide +kernel
theorem dX11_reads_5 : decode cX11_reads 5 = .ok (.if_icmp .eq 9, 3) := by decide +kernel
theorem dX11_reads_8 : decode cX11_reads 8 = .ok (.aload_n 0, 1) := by decide +kernel
theorem dX11_reads_9 : decode cX11_reads 9 = .ok (.iconst 1, 1) := by decide +kernel
theorem dX11_reads_10 : decode cX11_reads 10 = .ok (.invokevirtual 159, 3) := by decide +kernel
theorem dX11_reads_13 : decode cX11_reads 13 = .ok (.ireturn, 1) := by decide +kernel
theorem dX11_reads_14 : decode cX11_reads 14 = .ok (.aload_n 0, 1) := by decide +kernel
theorem dX11_reads_15 : decode cX11_reads 15 = .ok (.getfield 140, 3) := by decide +kernel
theorem dX11_reads_18 : decode cX11_reads 18 = .ok (.iload_n 1, 1) := by decide +kernel
theorem dX11_reads_19 : decode cX11_reads 19 = .ok (.iload_n 2, 1) := by decide +kernel
theorem dX11_reads_20 : decode cX11_reads 20 = .ok (.invokestatic 107, 3) := by decide +kernel
theorem dX11_reads_23 : decode cX11_reads 23 = .ok (.ifCond .ne 9, 3) := by decide +kernel
theorem dX11_reads_26 : decode cX11_reads 26 = .ok (.aload_n 0, 1) := by decide +kernel
theorem dX11_reads_27 : decode cX11_reads 27 = .ok (.iconst 2, 1) := by decide +kernel
theorem dX11_reads_28 : decode cX11_reads 28 = .ok (.invokevirtual 159, 3) := by decide +kernel
theorem dX11_reads_31 : decode cX11_reads 31 = .ok (.ireturn, 1) := by decide +kernel
theorem dX11_reads_32 : decode cX11_reads 32 = .ok (.aload_n 0, 1) := by decide +kernel
theorem dX11_reads_33 : decode cX11_reads 33 = .ok (.aload_n 0, 1) := by decide +kernel
theorem dX11_reads_34 : decode cX11_reads 34 = .ok (.getfield 140, 3) := by decide +kernel
theorem dX11_reads_37 : decode cX11_reads 37 = .ok (.putfield 163, 3) := by decide +kernel
theorem dX11_reads_40 : decode cX11_reads 40 = .ok (.aload_n 0, 1) := by decide +kernel
theorem dX11_reads_41 : decode cX11_reads 41 = .ok (.invokevirtual 166, 3) := by decide +kernel
theorem dX11_reads_44 : decode cX11_reads 44 = .ok (.iconst 1, 1) := by decide +kernel
theorem dX11_reads_45 : decode cX11_reads 45 = .ok (.ireturn, 1) := by decide +kernel
theorem dX11_readsSigned_0 : decode cX11_readsSigned 0 = .ok (.aload_n 0, 1) := by decide +kernel
theorem dX11_readsSigned_1 : decode cX11_readsSigned 1 = .ok (.getfield 137, 3) := by decide +kernel
theorem dX11_readsSigned_4 : decode cX11_readsSigned 4 = .ok (.bipush 45, 2) := by decide +kernel
theorem dX11_readsSigned_6 : decode cX11_readsSigned 6 = .ok (.if_icmp .ne 7, 3) := by decide +kernel
theorem dX11_readsSigned_9 : decode cX11_readsSigned 9 = .ok (.iconst 1, 1) := by decide +kernel
theorem dX11_readsSigned_10 : decode cX11_readsSigned 10 = .ok (.goto 4, 3) := by decide +kernel
theorem dX11_readsSigned_13 : decode cX11_readsSigned 13 = .ok (.iconst 0, 1) := by decide +kernel
theorem dX11_readsSigned_14 : decode cX11_readsSigned 14 = .ok (.istore_n 2, 1) := by decide +kernel
theorem dX11_readsSigned_15 : decode cX11_readsSigned 15 = .ok (.iload_n 2, 1) := by decide +kernel
theorem dX11_readsSigned_16 : decode cX11_readsSigned 16 = .ok (.ifCond .eq 7, 3) := by decide +kernel
theorem dX11_readsSigned_19 : decode cX11_readsSigned 19 = .ok (.aload_n 0, 1) := by decide +kernel
theorem dX11_readsSigned_20 : decode cX11_readsSigned 20 = .ok (.invokevirtual 166, 3) := by decide +kernel
theorem dX11_readsSigned_23 : decode cX11_readsSigned 23 = .ok (.aload_n 0, 1) := by decide +kernel
theorem dX11_readsSigned_24 : decode cX11_readsSigned 24 = .ok (.iconst 0, 1) := by decide +kernel
theorem dX11_readsSigned_25 : decode cX11_readsSigned 25 = .ok (.iload_n 1, 1) := by decide +kernel
theorem dX11_readsSigned_26 : decode cX11_readsSigned 26 = .ok (.invokevirtual 169, 3) := by decide +kernel
theorem dX11_readsSigned_29 : decode cX11_readsSigned 29 = .ok (.istore_n 3, 1) := by decide +kernel
theorem dX11_readsSigned_30 : decode cX11_readsSigned 30 = .ok (.aload_n 0, 1) := by decide +kernel
theorem dX11_readsSigned_31 : decode cX11_readsSigned 31 = .ok (.iload_n 2, 1) := by decide +kernel
theorem dX11_readsSigned_32 : decode cX11_readsSigned 32 = .ok (.ifCond .eq 11, 3) := by decide +kernel
theorem dX11_readsSigned_35 : decode cX11_readsSigned 35 = .ok (.aload_n 0, 1) := by decide +kernel
theorem dX11_readsSigned_36 : decode cX11_readsSigned 36 = .ok (.getfield 163, 3) := by decide +kernel
theorem dX11_readsSigned_39 : decode cX11_readsSigned 39 = .ok (.ineg, 1) := by decide +kernel
theorem dX11_readsSigned_40 : decode cX11_readsSigned 40 = .ok (.goto 7, 3) := by decide +kernel
theorem dX11_readsSigned_43 : decode cX11_readsSigned 43 = .ok (.aload_n 0, 1) := by decide +kernel
theorem dX11_readsSigned_44 : decode cX11_readsSigned 44 = .ok (.getfield 163, 3) := by decide +kernel
theorem dX11_readsSigned_47 : decode cX11_readsSigned 47 = .ok (.putfield 163, 3) := by decide +kernel
theorem dX11_readsSigned_50 : decode cX11_readsSigned 50 = .ok (.iload_n 3, 1) := by decide +kernel
theorem dX11_readsSigned_51 : decode cX11_readsSigned 51 = .ok (.ireturn, 1) := by decide +kernel
theorem dX11_readsBar_0 : decode cX11_readsBar 0 = .ok (.aload_n 0, 1) := by decide +kernel
theorem dX11_readsBar_1 : decode cX11_readsBar 1 = .ok (.aload_n 1, 1) := by decide +kernel
theorem dX11_readsBar_2 : decode cX11_readsBar 2 = .ok (.invokevirtual 173, 3) := by decide +kernel
theorem dX11_readsBar_5 : decode cX11_readsBar 5 = .ok (.ifCond .ne 9, 3) := by decide +kernel
theorem dX11_readsBar_8 : decode cX11_readsBar 8 = .ok (.aload_n 0, 1) := by decide +kernel
theorem dX11_readsBar_9 : decode cX11_readsBar 9 = .ok (.iconst 1, 1) := by decide +kernel
theorem dX11_readsBar_10 : decode cX11_readsBar 10 = .ok (.invokevirtual 159, 3) := by decide +kernel
theorem dX11_readsBar_13 : decode cX11_readsBar 13 = .ok (.ireturn, 1) := by decide +kernel
theorem dX11_readsBar_14 : decode cX11_readsBar 14 = .ok (.aload_n 0, 1) := by decide +kernel
theorem dX11_readsBar_15 : decode cX11_readsBar 15 = .ok (.invokevirtual 166, 3) := by decide +kernel
theorem dX11_readsBar_18 : decode cX11_readsBar 18 = .ok (.aload_n 0, 1) := by decide +kernel
theorem dX11_readsBar_19 : decode cX11_readsBar 19 = .ok (.iconst 1, 1) := by decide +kernel
theorem dX11_readsBar_20 : decode cX11_readsBar 20 = .ok (.bipush 18, 2) := by decide +kernel
theorem dX11_readsBar_22 : decode cX11_readsBar 22 = .ok (.invokevirtual 169, 3) := by decide +kernel
theorem dX11_readsBar_25 : decode cX11_readsBar 25 = .ok (.istore_n 3, 1) := by decide +kernel
theorem dX11_readsBar_26 : decode cX11_readsBar 26 = .ok (.aload_n 0, 1) := by decide +kernel
theorem dX11_readsBar_27 : decode cX11_readsBar 27 = .ok (.getfield 54, 3) := by decide +kernel
theorem dX11_readsBar_30 : decode cX11_readsBar 30 = .ok (.iconst 4, 1) := by decide +kernel
theorem dX11_readsBar_31 : decode cX11_readsBar 31 = .ok (.aload_n 0, 1) := by decide +kernel
theorem dX11_readsBar_32 : decode cX11_readsBar 32 = .ok (.getfield 177, 3) := by decide +kernel
theorem dX11_readsBar_35 : decode cX11_readsBar 35 = .ok (.imul, 1) := by decide +kernel
theorem dX11_readsBar_36 : decode cX11_readsBar 36 = .ok (.iload_n 2, 1) := by decide +kernel
theorem dX11_readsBar_37 : decode cX11_readsBar 37 = .ok (.iadd, 1) := by decide +kernel
theorem dX11_readsBar_38 : decode cX11_readsBar 38 = .ok (.aload_n 0, 1) := by decide +kernel
theorem dX11_readsBar_39 : decode cX11_readsBar 39 = .ok (.getfield 163, 3) := by decide +kernel
theorem dX11_readsBar_42 : decode cX11_readsBar 42 = .ok (.iastore, 1) := by decide +kernel
theorem dX11_readsBar_43 : decode cX11_readsBar 43 = .ok (.iload_n 3, 1) := by decide +kernel
theorem dX11_readsBar_44 : decode cX11_readsBar 44 = .ok (.ireturn, 1) := by decide +kernel
theorem dX11_readsBars_0 : decode cX11_readsBars 0 = .ok (.aload_n 0, 1) := by decide +kernel
theorem dX11_readsBars_1 : decode cX11_readsBars 1 = .ok (.getfield 177, 3) := by decide +kernel
theorem dX11_readsBars_4 : decode cX11_readsBars 4 = .ok (.iconst 4, 1) := by decide +kernel
theorem dX11_readsBars_5 : decode cX11_readsBars 5 = .ok (.if_icmp .ne 9, 3) := by decide +kernel
theorem dX11_readsBars_8 : decode cX11_readsBars 8 = .ok (.aload_n 0, 1) := by decide +kernel
theorem dX11_readsBars_9 : decode cX11_readsBars 9 = .ok (.iconst 3, 1) := by decide +kernel
theorem dX11_readsBars_10 : decode cX11_readsBars 10 = .ok (.invokevirtual 159, 3) := by decide +kernel
theorem dX11_readsBars_13 : decode cX11_readsBars 13 = .ok (.ireturn, 1) := by decide +kernel
theorem dX11_readsBars_14 : decode cX11_readsBars 14 = .ok (.aload_n 0, 1) := by decide +kernel
theorem dX11_readsBars_15 : decode cX11_readsBars 15 = .ok (.invokevirtual 166, 3) := by decide +kernel
theorem dX11_readsBars_18 : decode cX11_readsBars 18 = .ok (.aload_n 0, 1) := by decide +kernel
theorem dX11_readsBars_19 : decode cX11_readsBars 19 = .ok (.ldc 180, 2) := by decide +kernel
theorem dX11_readsBars_21 : decode cX11_readsBars 21 = .ok (.iconst 0, 1) := by decide +kernel
theorem dX11_readsBars_22 : decode cX11_readsBars 22 = .ok (.invokevirtual 182, 3) := by decide +kernel
theorem dX11_readsBars_25 : decode cX11_readsBars 25 = .ok (.ifCond .eq 37, 3) := by decide +kernel
theorem dX11_readsBars_28 : decode cX11_readsBars 28 = .ok (.aload_n 0, 1) := by decide +kernel
theorem dX11_readsBars_29 : decode cX11_readsBars 29 = .ok (.ldc 186, 2) := by decide +kernel
theorem dX11_readsBars_31 : decode cX11_readsBars 31 = .ok (.iconst 1, 1) := by decide +kernel
theorem dX11_readsBars_32 : decode cX11_readsBars 32 = .ok (.invokevirtual 182, 3) := by decide +kernel
theorem dX11_readsBars_35 : decode cX11_readsBars 35 = .ok (.ifCond .eq 27, 3) := by decide +kernel
theorem dX11_readsBars_38 : decode cX11_readsBars 38 = .ok (.aload_n 0, 1) := by decide +kernel
theorem dX11_readsBars_39 : decode cX11_readsBars 39 = .ok (.ldc 188, 2) := by decide +kernel
theorem dX11_readsBars_41 : decode cX11_readsBars 41 = .ok (.iconst 2, 1) := by decide +kernel
theorem dX11_readsBars_42 : decode cX11_readsBars 42 = .ok (.invokevirtual 182, 3) := by decide +kernel
theorem dX11_readsBars_45 : decode cX11_readsBars 45 = .ok (.ifCond .eq 17, 3) := by decide +kernel
theorem dX11_readsBars_48 : decode cX11_readsBars 48 = .ok (.aload_n 0, 1) := by decide +kernel
theorem dX11_readsBars_49 : decode cX11_readsBars 49 = .ok (.ldc 190, 2) := by decide +kernel
theorem dX11_readsBars_51 : decode cX11_readsBars 51 = .ok (.iconst 3, 1) := by decide +kernel
theorem dX11_readsBars_52 : decode cX11_readsBars 52 = .ok (.invokevirtual 182, 3) := by decide +kernel
theorem dX11_readsBars_55 : decode cX11_readsBars 55 = .ok (.ifCond .eq 7, 3) := by decide +kernel
theorem dX11_readsBars_58 : decode cX11_readsBars 58 = .ok (.iconst 1, 1) := by decide +kernel
theorem dX11_readsBars_59 : decode cX11_readsBars 59 = .ok (.goto 4, 3) := by decide +kernel
theorem dX11_readsBars_62 : decode cX11_readsBars 62 = .ok (.iconst 0, 1) := by decide +kernel
theorem dX11_readsBars_63 : decode cX11_readsBars 63 = .ok (.istore_n 1, 1) := by decide +kernel
theorem dX11_readsBars_64 : decode cX11_readsBars 64 = .ok (.aload_n 0, 1) := by decide +kernel
theorem dX11_readsBars_65 : decode cX11_readsBars 65 = .ok (.dup, 1) := by decide +kernel
theorem dX11_readsBars_66 : decode cX11_readsBars 66 = .ok (.getfield 177, 3) := by decide +kernel
theorem dX11_readsBars_69 : decode cX11_readsBars 69 = .ok (.iload_n 1, 1) := by decide +kernel
theorem dX11_readsBars_70 : decode cX11_readsBars 70 = .ok (.ifCond .eq 7, 3) := by decide +kernel
theorem dX11_readsBars_73 : decode cX11_readsBars 73 = .ok (.iconst 1, 1) := by decide +kernel
theorem dX11_readsBars_74 : decode cX11_readsBars 74 = .ok (.goto 4, 3) := by decide +kernel
theorem dX11_readsBars_77 : decode cX11_readsBars 77 = .ok (.iconst 0, 1) := by decide +kernel
theorem dX11_readsBars_78 : decode cX11_readsBars 78 = .ok (.iadd, 1) := by decide +kernel
theorem dX11_readsBars_79 : decode cX11_readsBars 79 = .ok (.putfield 177, 3) := by decide +kernel
theorem dX11_readsBars_82 : decode cX11_readsBars 82 = .ok (.iload_n 1, 1) := by decide +kernel
theorem dX11_readsBars_83 : decode cX11_readsBars 83 = .ok (.ireturn, 1) := by decide +kernel
theorem dX11_readsTracer_0 : decode cX11_readsTracer 0 = .ok (.aload_n 0, 1) := by decide +kernel
theorem dX11_readsTracer_1 : decode cX11_readsTracer 1 = .ok (.getfield 192, 3) := by decide +kernel
theorem dX11_readsTracer_4 : decode cX11_readsTracer 4 = .ok (.iconst 4, 1) := by decide +kernel
theorem dX11_readsTracer_5 : decode cX11_readsTracer 5 = .ok (.if_icmp .ne 9, 3) := by decide +kernel
theorem dX11_readsTracer_8 : decode cX11_readsTracer 8 = .ok (.aload_n 0, 1) := by decide +kernel
theorem dX11_readsTracer_9 : decode cX11_readsTracer 9 = .ok (.iconst 3, 1) := by decide +kernel
theorem dX11_readsTracer_10 : decode cX11_readsTracer 10 = .ok (.invokevirtual 159, 3) := by decide +kernel
theorem dX11_readsTracer_13 : decode cX11_readsTracer 13 = .ok (.ireturn, 1) := by decide +kernel
theorem dX11_readsTracer_14 : decode cX11_readsTracer 14 = .ok (.aload_n 0, 1) := by decide +kernel
theorem dX11_readsTracer_15 : decode cX11_readsTracer 15 = .ok (.invokevirtual 166, 3) := by decide +kernel
theorem dX11_readsTracer_18 : decode cX11_readsTracer 18 = .ok (.iconst 0, 1) := by decide +kernel
theorem dX11_readsTracer_19 : decode cX11_readsTracer 19 = .ok (.istore_n 1, 1) := by decide +kernel
theorem dX11_readsTracer_20 : decode cX11_readsTracer 20 = .ok (.iload_n 1, 1) := by decide +kernel
theorem dX11_readsTracer_21 : decode cX11_readsTracer 21 = .ok (.iconst 2, 1) := by decide +kernel
theorem dX11_readsTracer_22 : decode cX11_readsTracer 22 = .ok (.if_icmp .ge 37, 3) := by decide +kernel
theorem dX11_readsTracer_25 : decode cX11_readsTracer 25 = .ok (.aload_n 0, 1) := by decide +kernel
theorem dX11_readsTracer_26 : decode cX11_readsTracer 26 = .ok (.bipush 20, 2) := by decide +kernel
theorem dX11_readsTracer_28 : decode cX11_readsTracer 28 = .ok (.invokevirtual 195, 3) := by decide +kernel
theorem dX11_readsTracer_31 : decode cX11_readsTracer 31 = .ok (.ifCond .ne 5, 3) := by decide +kernel
theorem dX11_readsTracer_34 : decode cX11_readsTracer 34 = .ok (.iconst 0, 1) := by decide +kernel
theorem dX11_readsTracer_35 : decode cX11_readsTracer 35 = .ok (.ireturn, 1) := by decide +kernel
theorem dX11_readsTracer_36 : decode cX11_readsTracer 36 = .ok (.aload_n 0, 1) := by decide +kernel
theorem dX11_readsTracer_37 : decode cX11_readsTracer 37 = .ok (.getfield 57, 3) := by decide +kernel
theorem dX11_readsTracer_40 : decode cX11_readsTracer 40 = .ok (.iconst 2, 1) := by decide +kernel
theorem dX11_readsTracer_41 : decode cX11_readsTracer 41 = .ok (.aload_n 0, 1) := by decide +kernel
theorem dX11_readsTracer_42 : decode cX11_readsTracer 42 = .ok (.getfield 192, 3) := by decide +kernel
theorem dX11_readsTracer_45 : decode cX11_readsTracer 45 = .ok (.imul, 1) := by decide +kernel
theorem dX11_readsTracer_46 : decode cX11_readsTracer 46 = .ok (.iload_n 1, 1) := by decide +kernel
theorem dX11_readsTracer_47 : decode cX11_readsTracer 47 = .ok (.iadd, 1) := by decide +kernel
theorem dX11_readsTracer_48 : decode cX11_readsTracer 48 = .ok (.aload_n 0, 1) := by decide +kernel
theorem dX11_readsTracer_49 : decode cX11_readsTracer 49 = .ok (.getfield 163, 3) := by decide +kernel
theorem dX11_readsTracer_52 : decode cX11_readsTracer 52 = .ok (.iastore, 1) := by decide +kernel
theorem dX11_readsTracer_53 : decode cX11_readsTracer 53 = .ok (.iinc 1 1, 3) := by decide +kernel
theorem dX11_readsTracer_56 : decode cX11_readsTracer 56 = .ok (.goto (-36), 3) := by decide +kernel
theorem dX11_readsTracer_59 : decode cX11_readsTracer 59 = .ok (.aload_n 0, 1) := by decide +kernel
theorem dX11_readsTracer_60 : decode cX11_readsTracer 60 = .ok (.dup, 1) := by decide +kernel
theorem dX11_readsTracer_61 : decode cX11_readsTracer 61 = .ok (.getfield 192, 3) := by decide +kernel
theorem dX11_readsTracer_64 : decode cX11_readsTracer 64 = .ok (.iconst 1, 1) := by decide +kernel
theorem dX11_readsTracer_65 : decode cX11_readsTracer 65 = .ok (.iadd, 1) := by decide +kernel
theorem dX11_readsTracer_66 : decode cX11_readsTracer 66 = .ok (.putfield 192, 3) := by decide +kernel
theorem dX11_readsTracer_69 : decode cX11_readsTracer 69 = .ok (.iconst 1, 1) := by decide +kernel
theorem dX11_readsTracer_70 : decode cX11_readsTracer 70 = .ok (.ireturn, 1) := by decide +kernel
theorem dX11_readsPoint_0 : decode cX11_readsPoint 0 = .ok (.aload_n 0, 1) := by decide +kernel
theorem dX11_readsPoint_1 : decode cX11_readsPoint 1 = .ok (.getfield 198, 3) := by decide +kernel
theorem dX11_readsPoint_4 : decode cX11_readsPoint 4 = .ok (.bipush 8, 2) := by decide +kernel
theorem dX11_readsPoint_6 : decode cX11_readsPoint 6 = .ok (.if_icmp .ne 9, 3) := by decide +kernel
theorem dX11_readsPoint_9 : decode cX11_readsPoint 9 = .ok (.aload_n 0, 1) := by decide +kernel
theorem dX11_readsPoint_10 : decode cX11_readsPoint 10 = .ok (.iconst 3, 1) := by decide +kernel
theorem dX11_readsPoint_11 : decode cX11_readsPoint 11 = .ok (.invokevirtual 159, 3) := by decide +kernel
theorem dX11_readsPoint_14 : decode cX11_readsPoint 14 = .ok (.ireturn, 1) := by decide +kernel
theorem dX11_readsPoint_15 : decode cX11_readsPoint 15 = .ok (.aload_n 0, 1) := by decide +kernel
theorem dX11_readsPoint_16 : decode cX11_readsPoint 16 = .ok (.invokevirtual 166, 3) := by decide +kernel
theorem dX11_readsPoint_19 : decode cX11_readsPoint 19 = .ok (.iconst 0, 1) := by decide +kernel
theorem dX11_readsPoint_20 : decode cX11_readsPoint 20 = .ok (.istore_n 1, 1) := by decide +kernel
theorem dX11_readsPoint_21 : decode cX11_readsPoint 21 = .ok (.iload_n 1, 1) := by decide +kernel
theorem dX11_readsPoint_22 : decode cX11_readsPoint 22 = .ok (.iconst 2, 1) := by decide +kernel
theorem dX11_readsPoint_23 : decode cX11_readsPoint 23 = .ok (.if_icmp .ge 38, 3) := by decide +kernel
theorem dX11_readsPoint_26 : decode cX11_readsPoint 26 = .ok (.aload_n 0, 1) := by decide +kernel
theorem dX11_readsPoint_27 : decode cX11_readsPoint 27 = .ok (.sipush 999, 3) := by decide +kernel
theorem dX11_readsPoint_30 : decode cX11_readsPoint 30 = .ok (.invokevirtual 195, 3) := by decide +kernel
theorem dX11_readsPoint_33 : decode cX11_readsPoint 33 = .ok (.ifCond .ne 5, 3) := by decide +kernel
theorem dX11_readsPoint_36 : decode cX11_readsPoint 36 = .ok (.iconst 0, 1) := by decide +kernel
theorem dX11_readsPoint_37 : decode cX11_readsPoint 37 = .ok (.ireturn, 1) := by decide +kernel
theorem dX11_readsPoint_38 : decode cX11_readsPoint 38 = .ok (.aload_n 0, 1) := by decide +kernel
theorem dX11_readsPoint_39 : decode cX11_readsPoint 39 = .ok (.getfield 60, 3) := by decide +kernel
theorem dX11_readsPoint_42 : decode cX11_readsPoint 42 = .ok (.iconst 2, 1) := by decide +kernel
theorem dX11_readsPoint_43 : decode cX11_readsPoint 43 = .ok (.aload_n 0, 1) := by decide +kernel
theorem dX11_readsPoint_44 : decode cX11_readsPoint 44 = .ok (.getfield 198, 3) := by decide +kernel
theorem dX11_readsPoint_47 : decode cX11_readsPoint 47 = .ok (.imul, 1) := by decide +kernel
theorem dX11_readsPoint_48 : decode cX11_readsPoint 48 = .ok (.iload_n 1, 1) := by decide +kernel
theorem dX11_readsPoint_49 : decode cX11_readsPoint 49 = .ok (.iadd, 1) := by decide +kernel
theorem dX11_readsPoint_50 : decode cX11_readsPoint 50 = .ok (.aload_n 0, 1) := by decide +kernel
theorem dX11_readsPoint_51 : decode cX11_readsPoint 51 = .ok (.getfield 163, 3) := by decide +kernel
theorem dX11_readsPoint_54 : decode cX11_readsPoint 54 = .ok (.iastore, 1) := by decide +kernel
theorem dX11_readsPoint_55 : decode cX11_readsPoint 55 = .ok (.iinc 1 1, 3) := by decide +kernel
theorem dX11_readsPoint_58 : decode cX11_readsPoint 58 = .ok (.goto (-37), 3) := by decide +kernel
theorem dX11_readsPoint_61 : decode cX11_readsPoint 61 = .ok (.aload_n 0, 1) := by decide +kernel
theorem dX11_readsPoint_62 : decode cX11_readsPoint 62 = .ok (.dup, 1) := by decide +kernel
theorem dX11_readsPoint_63 : decode cX11_readsPoint 63 = .ok (.getfield 198, 3) := by decide +kernel
theorem dX11_readsPoint_66 : decode cX11_readsPoint 66 = .ok (.iconst 1, 1) := by decide +kernel
theorem dX11_readsPoint_67 : decode cX11_readsPoint 67 = .ok (.iadd, 1) := by decide +kernel
theorem dX11_readsPoint_68 : decode cX11_readsPoint 68 = .ok (.putfield 198, 3) := by decide +kernel
theorem dX11_readsPoint_71 : decode cX11_readsPoint 71 = .ok (.iconst 1, 1) := by decide +kernel
theorem dX11_readsPoint_72 : decode cX11_readsPoint 72 = .ok (.ireturn, 1) := by decide +kernel
theorem dX11_readsPair_0 : decode cX11_readsPair 0 = .ok (.aload_n 0, 1) := by decide +kernel
theorem dX11_readsPair_1 : decode cX11_readsPair 1 = .ok (.getfield 201, 3) := by decide +kernel
theorem dX11_readsPair_4 : decode cX11_readsPair 4 = .ok (.iconst 4, 1) := by decide +kernel
theorem dX11_readsPair_5 : decode cX11_readsPair 5 = .ok (.if_icmp .ne 9, 3) := by decide +kernel
theorem dX11_readsPair_8 : decode cX11_readsPair 8 = .ok (.aload_n 0, 1) := by decide +kernel
theorem dX11_readsPair_9 : decode cX11_readsPair 9 = .ok (.iconst 3, 1) := by decide +kernel
theorem dX11_readsPair_10 : decode cX11_readsPair 10 = .ok (.invokevirtual 159, 3) := by decide +kernel
theorem dX11_readsPair_13 : decode cX11_readsPair 13 = .ok (.ireturn, 1) := by decide +kernel
theorem dX11_readsPair_14 : decode cX11_readsPair 14 = .ok (.aload_n 0, 1) := by decide +kernel
theorem dX11_readsPair_15 : decode cX11_readsPair 15 = .ok (.invokevirtual 166, 3) := by decide +kernel
theorem dX11_readsPair_18 : decode cX11_readsPair 18 = .ok (.iconst 0, 1) := by decide +kernel
theorem dX11_readsPair_19 : decode cX11_readsPair 19 = .ok (.istore_n 1, 1) := by decide +kernel
theorem dX11_readsPair_20 : decode cX11_readsPair 20 = .ok (.iload_n 1, 1) := by decide +kernel
theorem dX11_readsPair_21 : decode cX11_readsPair 21 = .ok (.iconst 4, 1) := by decide +kernel
theorem dX11_readsPair_22 : decode cX11_readsPair 22 = .ok (.if_icmp .ge 86, 3) := by decide +kernel
theorem dX11_readsPair_25 : decode cX11_readsPair 25 = .ok (.aload_n 0, 1) := by decide +kernel
theorem dX11_readsPair_26 : decode cX11_readsPair 26 = .ok (.iconst 5, 1) := by decide +kernel
theorem dX11_readsPair_27 : decode cX11_readsPair 27 = .ok (.invokevirtual 195, 3) := by decide +kernel
theorem dX11_readsPair_30 : decode cX11_readsPair 30 = .ok (.ifCond .ne 5, 3) := by decide +kernel
theorem dX11_readsPair_33 : decode cX11_readsPair 33 = .ok (.iconst 0, 1) := by decide +kernel
theorem dX11_readsPair_34 : decode cX11_readsPair 34 = .ok (.ireturn, 1) := by decide +kernel
theorem dX11_readsPair_35 : decode cX11_readsPair 35 = .ok (.aload_n 0, 1) := by decide +kernel
theorem dX11_readsPair_36 : decode cX11_readsPair 36 = .ok (.getfield 63, 3) := by decide +kernel
theorem dX11_readsPair_39 : decode cX11_readsPair 39 = .ok (.iconst 4, 1) := by decide +kernel
theorem dX11_readsPair_40 : decode cX11_readsPair 40 = .ok (.aload_n 0, 1) := by decide +kernel
theorem dX11_readsPair_41 : decode cX11_readsPair 41 = .ok (.getfield 201, 3) := by decide +kernel
theorem dX11_readsPair_44 : decode cX11_readsPair 44 = .ok (.imul, 1) := by decide +kernel
theorem dX11_readsPair_45 : decode cX11_readsPair 45 = .ok (.iload_n 1, 1) := by decide +kernel
theorem dX11_readsPair_46 : decode cX11_readsPair 46 = .ok (.iadd, 1) := by decide +kernel
theorem dX11_readsPair_47 : decode cX11_readsPair 47 = .ok (.aload_n 0, 1) := by decide +kernel
theorem dX11_readsPair_48 : decode cX11_readsPair 48 = .ok (.getfield 163, 3) := by decide +kernel
theorem dX11_readsPair_51 : decode cX11_readsPair 51 = .ok (.iastore, 1) := by decide +kernel
theorem dX11_readsPair_52 : decode cX11_readsPair 52 = .ok (.aload_n 0, 1) := by decide +kernel
theorem dX11_readsPair_53 : decode cX11_readsPair 53 = .ok (.aload_n 0, 1) := by decide +kernel
theorem dX11_readsPair_54 : decode cX11_readsPair 54 = .ok (.getfield 63, 3) := by decide +kernel
theorem dX11_readsPair_57 : decode cX11_readsPair 57 = .ok (.iconst 4, 1) := by decide +kernel
theorem dX11_readsPair_58 : decode cX11_readsPair 58 = .ok (.aload_n 0, 1) := by decide +kernel
theorem dX11_readsPair_59 : decode cX11_readsPair 59 = .ok (.getfield 201, 3) := by decide +kernel
theorem dX11_readsPair_62 : decode cX11_readsPair 62 = .ok (.imul, 1) := by decide +kernel
theorem dX11_readsPair_63 : decode cX11_readsPair 63 = .ok (.iload_n 1, 1) := by decide +kernel
theorem dX11_readsPair_64 : decode cX11_readsPair 64 = .ok (.iadd, 1) := by decide +kernel
theorem dX11_readsPair_65 : decode cX11_readsPair 65 = .ok (.iaload, 1) := by decide +kernel
theorem dX11_readsPair_66 : decode cX11_readsPair 66 = .ok (.ifCond .ne 7, 3) := by decide +kernel
theorem dX11_readsPair_69 : decode cX11_readsPair 69 = .ok (.iconst 1, 1) := by decide +kernel
theorem dX11_readsPair_70 : decode cX11_readsPair 70 = .ok (.goto 4, 3) := by decide +kernel
theorem dX11_readsPair_73 : decode cX11_readsPair 73 = .ok (.iconst 0, 1) := by decide +kernel
theorem dX11_readsPair_74 : decode cX11_readsPair 74 = .ok (.iconst 5, 1) := by decide +kernel
theorem dX11_readsPair_75 : decode cX11_readsPair 75 = .ok (.invokevirtual 169, 3) := by decide +kernel
theorem dX11_readsPair_78 : decode cX11_readsPair 78 = .ok (.ifCond .ne 5, 3) := by decide +kernel
theorem dX11_readsPair_81 : decode cX11_readsPair 81 = .ok (.iconst 0, 1) := by decide +kernel
theorem dX11_readsPair_82 : decode cX11_readsPair 82 = .ok (.ireturn, 1) := by decide +kernel
theorem dX11_readsPair_83 : decode cX11_readsPair 83 = .ok (.aload_n 0, 1) := by decide +kernel
theorem dX11_readsPair_84 : decode cX11_readsPair 84 = .ok (.getfield 63, 3) := by decide +kernel
theorem dX11_readsPair_87 : decode cX11_readsPair 87 = .ok (.iconst 4, 1) := by decide +kernel
theorem dX11_readsPair_88 : decode cX11_readsPair 88 = .ok (.aload_n 0, 1) := by decide +kernel
theorem dX11_readsPair_89 : decode cX11_readsPair 89 = .ok (.getfield 201, 3) := by decide +kernel
theorem dX11_readsPair_92 : decode cX11_readsPair 92 = .ok (.imul, 1) := by decide +kernel
theorem dX11_readsPair_93 : decode cX11_readsPair 93 = .ok (.iload_n 1, 1) := by decide +kernel
theorem dX11_readsPair_94 : decode cX11_readsPair 94 = .ok (.iadd, 1) := by decide +kernel
theorem dX11_readsPair_95 : decode cX11_readsPair 95 = .ok (.iconst 1, 1) := by decide +kernel
theorem dX11_readsPair_96 : decode cX11_readsPair 96 = .ok (.iadd, 1) := by decide +kernel
theorem dX11_readsPair_97 : decode cX11_readsPair 97 = .ok (.aload_n 0, 1) := by decide +kernel
theorem dX11_readsPair_98 : decode cX11_readsPair 98 = .ok (.getfield 163, 3) := by decide +kernel
theorem dX11_readsPair_101 : decode cX11_readsPair 101 = .ok (.iastore, 1) := by decide +kernel
theorem dX11_readsPair_102 : decode cX11_readsPair 102 = .ok (.iinc 1 2, 3) := by decide +kernel
theorem dX11_readsPair_105 : decode cX11_readsPair 105 = .ok (.goto (-85), 3) := by decide +kernel
theorem dX11_readsPair_108 : decode cX11_readsPair 108 = .ok (.aload_n 0, 1) := by decide +kernel
theorem dX11_readsPair_109 : decode cX11_readsPair 109 = .ok (.dup, 1) := by decide +kernel
theorem dX11_readsPair_110 : decode cX11_readsPair 110 = .ok (.getfield 201, 3) := by decide +kernel
theorem dX11_readsPair_113 : decode cX11_readsPair 113 = .ok (.iconst 1, 1) := by decide +kernel
theorem dX11_readsPair_114 : decode cX11_readsPair 114 = .ok (.iadd, 1) := by decide +kernel
theorem dX11_readsPair_115 : decode cX11_readsPair 115 = .ok (.putfield 201, 3) := by decide +kernel
theorem dX11_readsPair_118 : decode cX11_readsPair 118 = .ok (.iconst 1, 1) := by decide +kernel
theorem dX11_readsPair_119 : decode cX11_readsPair 119 = .ok (.ireturn, 1) := by decide +kernel
theorem dX11_readsLine_0 : decode cX11_readsLine 0 = .ok (.aload_n 0, 1) := by decide +kernel
theorem dX11_readsLine_1 : decode cX11_readsLine 1 = .ok (.ldc 204, 2) := by decide +kernel
theorem dX11_readsLine_3 : decode cX11_readsLine 3 = .ok (.invokevirtual 173, 3) := by decide +kernel
theorem dX11_readsLine_6 : decode cX11_readsLine 6 = .ok (.ifCond .eq 8, 3) := by decide +kernel
theorem dX11_readsLine_9 : decode cX11_readsLine 9 = .ok (.aload_n 0, 1) := by decide +kernel
theorem dX11_readsLine_10 : decode cX11_readsLine 10 = .ok (.invokevirtual 205, 3) := by decide +kernel
theorem dX11_readsLine_13 : decode cX11_readsLine 13 = .ok (.ireturn, 1) := by decide +kernel
theorem dX11_readsLine_14 : decode cX11_readsLine 14 = .ok (.aload_n 0, 1) := by decide +kernel
theorem dX11_readsLine_15 : decode cX11_readsLine 15 = .ok (.ldc 209, 2) := by decide +kernel
theorem dX11_readsLine_17 : decode cX11_readsLine 17 = .ok (.invokevirtual 173, 3) := by decide +kernel
theorem dX11_readsLine_20 : decode cX11_readsLine 20 = .ok (.ifCond .eq 8, 3) := by decide +kernel
theorem dX11_readsLine_23 : decode cX11_readsLine 23 = .ok (.aload_n 0, 1) := by decide +kernel
theorem dX11_readsLine_24 : decode cX11_readsLine 24 = .ok (.invokevirtual 211, 3) := by decide +kernel
theorem dX11_readsLine_27 : decode cX11_readsLine 27 = .ok (.ireturn, 1) := by decide +kernel
theorem dX11_readsLine_28 : decode cX11_readsLine 28 = .ok (.aload_n 0, 1) := by decide +kernel
theorem dX11_readsLine_29 : decode cX11_readsLine 29 = .ok (.ldc 214, 2) := by decide +kernel
theorem dX11_readsLine_31 : decode cX11_readsLine 31 = .ok (.invokevirtual 173, 3) := by decide +kernel
theorem dX11_readsLine_34 : decode cX11_readsLine 34 = .ok (.ifCond .eq 8, 3) := by decide +kernel
theorem dX11_readsLine_37 : decode cX11_readsLine 37 = .ok (.aload_n 0, 1) := by decide +kernel
theorem dX11_readsLine_38 : decode cX11_readsLine 38 = .ok (.invokevirtual 216, 3) := by decide +kernel
theorem dX11_readsLine_41 : decode cX11_readsLine 41 = .ok (.ireturn, 1) := by decide +kernel
theorem dX11_readsLine_42 : decode cX11_readsLine 42 = .ok (.aload_n 0, 1) := by decide +kernel
theorem dX11_readsLine_43 : decode cX11_readsLine 43 = .ok (.ldc 219, 2) := by decide +kernel
theorem dX11_readsLine_45 : decode cX11_readsLine 45 = .ok (.invokevirtual 173, 3) := by decide +kernel
theorem dX11_readsLine_48 : decode cX11_readsLine 48 = .ok (.ifCond .eq 10, 3) := by decide +kernel
theorem dX11_readsLine_51 : decode cX11_readsLine 51 = .ok (.aload_n 0, 1) := by decide +kernel
theorem dX11_readsLine_52 : decode cX11_readsLine 52 = .ok (.invokevirtual 221, 3) := by decide +kernel
theorem dX11_readsLine_55 : decode cX11_readsLine 55 = .ok (.goto 8, 3) := by decide +kernel
theorem dX11_readsLine_58 : decode cX11_readsLine 58 = .ok (.aload_n 0, 1) := by decide +kernel
theorem dX11_readsLine_59 : decode cX11_readsLine 59 = .ok (.iconst 1, 1) := by decide +kernel
theorem dX11_readsLine_60 : decode cX11_readsLine 60 = .ok (.invokevirtual 159, 3) := by decide +kernel
theorem dX11_readsLine_63 : decode cX11_readsLine 63 = .ok (.ireturn, 1) := by decide +kernel
theorem dX11_readsAll_0 : decode cX11_readsAll 0 = .ok (.aload_n 0, 1) := by decide +kernel
theorem dX11_readsAll_1 : decode cX11_readsAll 1 = .ok (.iload_n 1, 1) := by decide +kernel
theorem dX11_readsAll_2 : decode cX11_readsAll 2 = .ok (.putfield 125, 3) := by decide +kernel
theorem dX11_readsAll_5 : decode cX11_readsAll 5 = .ok (.aload_n 0, 1) := by decide +kernel
theorem dX11_readsAll_6 : decode cX11_readsAll 6 = .ok (.iconst 0, 1) := by decide +kernel
theorem dX11_readsAll_7 : decode cX11_readsAll 7 = .ok (.putfield 128, 3) := by decide +kernel
theorem dX11_readsAll_10 : decode cX11_readsAll 10 = .ok (.aload_n 0, 1) := by decide +kernel
theorem dX11_readsAll_11 : decode cX11_readsAll 11 = .ok (.iconst 0, 1) := by decide +kernel
theorem dX11_readsAll_12 : decode cX11_readsAll 12 = .ok (.putfield 177, 3) := by decide +kernel
theorem dX11_readsAll_15 : decode cX11_readsAll 15 = .ok (.aload_n 0, 1) := by decide +kernel
theorem dX11_readsAll_16 : decode cX11_readsAll 16 = .ok (.iconst 0, 1) := by decide +kernel
theorem dX11_readsAll_17 : decode cX11_readsAll 17 = .ok (.putfield 192, 3) := by decide +kernel
theorem dX11_readsAll_20 : decode cX11_readsAll 20 = .ok (.aload_n 0, 1) := by decide +kernel
theorem dX11_readsAll_21 : decode cX11_readsAll 21 = .ok (.iconst 0, 1) := by decide +kernel
theorem dX11_readsAll_22 : decode cX11_readsAll 22 = .ok (.putfield 198, 3) := by decide +kernel
theorem dX11_readsAll_25 : decode cX11_readsAll 25 = .ok (.aload_n 0, 1) := by decide +kernel
theorem dX11_readsAll_26 : decode cX11_readsAll 26 = .ok (.iconst 0, 1) := by decide +kernel
theorem dX11_readsAll_27 : decode cX11_readsAll 27 = .ok (.putfield 201, 3) := by decide +kernel
theorem dX11_readsAll_30 : decode cX11_readsAll 30 = .ok (.aload_n 0, 1) := by decide +kernel
theorem dX11_readsAll_31 : decode cX11_readsAll 31 = .ok (.invokevirtual 166, 3) := by decide +kernel
theorem dX11_readsAll_34 : decode cX11_readsAll 34 = .ok (.aload_n 0, 1) := by decide +kernel
theorem dX11_readsAll_35 : decode cX11_readsAll 35 = .ok (.invokevirtual 224, 3) := by decide +kernel
theorem dX11_readsAll_38 : decode cX11_readsAll 38 = .ok (.ifCond .ne 5, 3) := by decide +kernel
theorem dX11_readsAll_41 : decode cX11_readsAll 41 = .ok (.iconst 0, 1) := by decide +kernel
theorem dX11_readsAll_42 : decode cX11_readsAll 42 = .ok (.ireturn, 1) := by decide +kernel
theorem dX11_readsAll_43 : decode cX11_readsAll 43 = .ok (.aload_n 0, 1) := by decide +kernel
theorem dX11_readsAll_44 : decode cX11_readsAll 44 = .ok (.getfield 137, 3) := by decide +kernel
theorem dX11_readsAll_47 : decode cX11_readsAll 47 = .ok (.bipush 59, 2) := by decide +kernel
theorem dX11_readsAll_49 : decode cX11_readsAll 49 = .ok (.if_icmp .ne 16, 3) := by decide +kernel
theorem dX11_readsAll_52 : decode cX11_readsAll 52 = .ok (.aload_n 0, 1) := by decide +kernel
theorem dX11_readsAll_53 : decode cX11_readsAll 53 = .ok (.invokevirtual 166, 3) := by decide +kernel
theorem dX11_readsAll_56 : decode cX11_readsAll 56 = .ok (.aload_n 0, 1) := by decide +kernel
theorem dX11_readsAll_57 : decode cX11_readsAll 57 = .ok (.invokevirtual 224, 3) := by decide +kernel
theorem dX11_readsAll_60 : decode cX11_readsAll 60 = .ok (.ifCond .ne (-17), 3) := by decide +kernel
theorem dX11_readsAll_63 : decode cX11_readsAll 63 = .ok (.iconst 0, 1) := by decide +kernel
theorem dX11_readsAll_64 : decode cX11_readsAll 64 = .ok (.ireturn, 1) := by decide +kernel
theorem dX11_readsAll_65 : decode cX11_readsAll 65 = .ok (.aload_n 0, 1) := by decide +kernel
theorem dX11_readsAll_66 : decode cX11_readsAll 66 = .ok (.getfield 137, 3) := by decide +kernel
theorem dX11_readsAll_69 : decode cX11_readsAll 69 = .ok (.ifCond .eq 9, 3) := by decide +kernel
theorem dX11_readsAll_72 : decode cX11_readsAll 72 = .ok (.aload_n 0, 1) := by decide +kernel
theorem dX11_readsAll_73 : decode cX11_readsAll 73 = .ok (.iconst 1, 1) := by decide +kernel
theorem dX11_readsAll_74 : decode cX11_readsAll 74 = .ok (.invokevirtual 159, 3) := by decide +kernel
theorem dX11_readsAll_77 : decode cX11_readsAll 77 = .ok (.ireturn, 1) := by decide +kernel
theorem dX11_readsAll_78 : decode cX11_readsAll 78 = .ok (.aload_n 0, 1) := by decide +kernel
theorem dX11_readsAll_79 : decode cX11_readsAll 79 = .ok (.getfield 177, 3) := by decide +kernel
theorem dX11_readsAll_82 : decode cX11_readsAll 82 = .ok (.ifCond .gt 11, 3) := by decide +kernel
theorem dX11_readsAll_85 : decode cX11_readsAll 85 = .ok (.aload_n 0, 1) := by decide +kernel
theorem dX11_readsAll_86 : decode cX11_readsAll 86 = .ok (.iconst 4, 1) := by decide +kernel
theorem dX11_readsAll_87 : decode cX11_readsAll 87 = .ok (.invokevirtual 159, 3) := by decide +kernel
theorem dX11_readsAll_90 : decode cX11_readsAll 90 = .ok (.ifCond .eq 7, 3) := by decide +kernel
theorem dX11_readsAll_93 : decode cX11_readsAll 93 = .ok (.iconst 1, 1) := by decide +kernel
theorem dX11_readsAll_94 : decode cX11_readsAll 94 = .ok (.goto 4, 3) := by decide +kernel
theorem dX11_readsAll_97 : decode cX11_readsAll 97 = .ok (.iconst 0, 1) := by decide +kernel
theorem dX11_readsAll_98 : decode cX11_readsAll 98 = .ok (.ireturn, 1) := by decide +kernel
theorem dX11_where_0 : decode cX11_where 0 = .ok (.aload_n 0, 1) := by decide +kernel
theorem dX11_where_1 : decode cX11_where 1 = .ok (.iconst 0, 1) := by decide +kernel
theorem dX11_where_2 : decode cX11_where 2 = .ok (.putfield 1, 3) := by decide +kernel
theorem dX11_where_5 : decode cX11_where 5 = .ok (.aload_n 0, 1) := by decide +kernel
theorem dX11_where_6 : decode cX11_where 6 = .ok (.getfield 11, 3) := by decide +kernel
theorem dX11_where_9 : decode cX11_where 9 = .ok (.iconst 4, 1) := by decide +kernel
theorem dX11_where_10 : decode cX11_where 10 = .ok (.if_icmp .ne 10, 3) := by decide +kernel
theorem dX11_where_13 : decode cX11_where 13 = .ok (.aload_n 0, 1) := by decide +kernel
theorem dX11_where_14 : decode cX11_where 14 = .ok (.getfield 14, 3) := by decide +kernel
theorem dX11_where_17 : decode cX11_where 17 = .ok (.goto 4, 3) := by decide +kernel
theorem dX11_where_20 : decode cX11_where 20 = .ok (.iconst (-1), 1) := by decide +kernel
theorem dX11_where_21 : decode cX11_where 21 = .ok (.ireturn, 1) := by decide +kernel
theorem dX11_leastOf_0 : decode cX11_leastOf 0 = .ok (.iconst 0, 1) := by decide +kernel
theorem dX11_leastOf_1 : decode cX11_leastOf 1 = .ok (.istore_n 2, 1) := by decide +kernel
theorem dX11_leastOf_2 : decode cX11_leastOf 2 = .ok (.iconst 1, 1) := by decide +kernel
theorem dX11_leastOf_3 : decode cX11_leastOf 3 = .ok (.istore_n 3, 1) := by decide +kernel
theorem dX11_leastOf_4 : decode cX11_leastOf 4 = .ok (.iload_n 3, 1) := by decide +kernel
theorem dX11_leastOf_5 : decode cX11_leastOf 5 = .ok (.iconst 4, 1) := by decide +kernel
theorem dX11_leastOf_6 : decode cX11_leastOf 6 = .ok (.if_icmp .ge 30, 3) := by decide +kernel
theorem dX11_leastOf_9 : decode cX11_leastOf 9 = .ok (.aload_n 0, 1) := by decide +kernel
theorem dX11_leastOf_10 : decode cX11_leastOf 10 = .ok (.iload_n 1, 1) := by decide +kernel
theorem dX11_leastOf_11 : decode cX11_leastOf 11 = .ok (.iload_n 3, 1) := by decide +kernel
theorem dX11_leastOf_12 : decode cX11_leastOf 12 = .ok (.invokevirtual 252, 3) := by decide +kernel
theorem dX11_leastOf_15 : decode cX11_leastOf 15 = .ok (.aload_n 0, 1) := by decide +kernel
theorem dX11_leastOf_16 : decode cX11_leastOf 16 = .ok (.iload_n 1, 1) := by decide +kernel
theorem dX11_leastOf_17 : decode cX11_leastOf 17 = .ok (.iload_n 2, 1) := by decide +kernel
theorem dX11_leastOf_18 : decode cX11_leastOf 18 = .ok (.invokevirtual 252, 3) := by decide +kernel
theorem dX11_leastOf_21 : decode cX11_leastOf 21 = .ok (.if_icmp .ge 7, 3) := by decide +kernel
theorem dX11_leastOf_24 : decode cX11_leastOf 24 = .ok (.iload_n 3, 1) := by decide +kernel
theorem dX11_leastOf_25 : decode cX11_leastOf 25 = .ok (.goto 4, 3) := by decide +kernel
theorem dX11_leastOf_28 : decode cX11_leastOf 28 = .ok (.iload_n 2, 1) := by decide +kernel
theorem dX11_leastOf_29 : decode cX11_leastOf 29 = .ok (.istore_n 2, 1) := by decide +kernel
theorem dX11_leastOf_30 : decode cX11_leastOf 30 = .ok (.iinc 3 1, 3) := by decide +kernel
theorem dX11_leastOf_33 : decode cX11_leastOf 33 = .ok (.goto (-29), 3) := by decide +kernel
theorem dX11_leastOf_36 : decode cX11_leastOf 36 = .ok (.iload_n 2, 1) := by decide +kernel
theorem dX11_leastOf_37 : decode cX11_leastOf 37 = .ok (.ireturn, 1) := by decide +kernel
theorem dX11_sumsOf_0 : decode cX11_sumsOf 0 = .ok (.aload_n 0, 1) := by decide +kernel
theorem dX11_sumsOf_1 : decode cX11_sumsOf 1 = .ok (.iload_n 1, 1) := by decide +kernel
theorem dX11_sumsOf_2 : decode cX11_sumsOf 2 = .ok (.invokevirtual 259, 3) := by decide +kernel
theorem dX11_sumsOf_5 : decode cX11_sumsOf 5 = .ok (.iconst 2, 1) := by decide +kernel
theorem dX11_sumsOf_6 : decode cX11_sumsOf 6 = .ok (.aload_n 0, 1) := by decide +kernel
theorem dX11_sumsOf_7 : decode cX11_sumsOf 7 = .ok (.iload_n 1, 1) := by decide +kernel
theorem dX11_sumsOf_8 : decode cX11_sumsOf 8 = .ok (.invokevirtual 256, 3) := by decide +kernel
theorem dX11_sumsOf_11 : decode cX11_sumsOf 11 = .ok (.imul, 1) := by decide +kernel
theorem dX11_sumsOf_12 : decode cX11_sumsOf 12 = .ok (.isub, 1) := by decide +kernel
theorem dX11_sumsOf_13 : decode cX11_sumsOf 13 = .ok (.iconst 2, 1) := by decide +kernel
theorem dX11_sumsOf_14 : decode cX11_sumsOf 14 = .ok (.aload_n 0, 1) := by decide +kernel
theorem dX11_sumsOf_15 : decode cX11_sumsOf 15 = .ok (.iload_n 1, 1) := by decide +kernel
theorem dX11_sumsOf_16 : decode cX11_sumsOf 16 = .ok (.aload_n 0, 1) := by decide +kernel
theorem dX11_sumsOf_17 : decode cX11_sumsOf 17 = .ok (.iload_n 1, 1) := by decide +kernel
theorem dX11_sumsOf_18 : decode cX11_sumsOf 18 = .ok (.invokevirtual 262, 3) := by decide +kernel
theorem dX11_sumsOf_21 : decode cX11_sumsOf 21 = .ok (.invokevirtual 252, 3) := by decide +kernel
theorem dX11_sumsOf_24 : decode cX11_sumsOf 24 = .ok (.imul, 1) := by decide +kernel
theorem dX11_sumsOf_25 : decode cX11_sumsOf 25 = .ok (.isub, 1) := by decide +kernel
theorem dX11_sumsOf_26 : decode cX11_sumsOf 26 = .ok (.ireturn, 1) := by decide +kernel
theorem dX11_sums_0 : decode cX11_sums 0 = .ok (.aload_n 0, 1) := by decide +kernel
theorem dX11_sums_1 : decode cX11_sums 1 = .ok (.invokevirtual 104, 3) := by decide +kernel
theorem dX11_sums_4 : decode cX11_sums 4 = .ok (.aload_n 0, 1) := by decide +kernel
theorem dX11_sums_5 : decode cX11_sums 5 = .ok (.iload_n 1, 1) := by decide +kernel
theorem dX11_sums_6 : decode cX11_sums 6 = .ok (.invokevirtual 265, 3) := by decide +kernel
theorem dX11_sums_9 : decode cX11_sums 9 = .ok (.ifCond .eq 11, 3) := by decide +kernel
theorem dX11_sums_12 : decode cX11_sums 12 = .ok (.aload_n 0, 1) := by decide +kernel
theorem dX11_sums_13 : decode cX11_sums 13 = .ok (.iload_n 1, 1) := by decide +kernel
theorem dX11_sums_14 : decode cX11_sums 14 = .ok (.invokevirtual 268, 3) := by decide +kernel
theorem dX11_sums_17 : decode cX11_sums 17 = .ok (.goto 8, 3) := by decide +kernel
theorem dX11_sums_20 : decode cX11_sums 20 = .ok (.aload_n 0, 1) := by decide +kernel
theorem dX11_sums_21 : decode cX11_sums 21 = .ok (.iconst 1, 1) := by decide +kernel
theorem dX11_sums_22 : decode cX11_sums 22 = .ok (.invokevirtual 111, 3) := by decide +kernel
theorem dX11_sums_25 : decode cX11_sums 25 = .ok (.ireturn, 1) := by decide +kernel
theorem dX11_kind_0 : decode cX11_kind 0 = .ok (.aload_n 0, 1) := by decide +kernel
theorem dX11_kind_1 : decode cX11_kind 1 = .ok (.invokevirtual 104, 3) := by decide +kernel
theorem dX11_kind_4 : decode cX11_kind 4 = .ok (.aload_n 0, 1) := by decide +kernel
theorem dX11_kind_5 : decode cX11_kind 5 = .ok (.iload_n 1, 1) := by decide +kernel
theorem dX11_kind_6 : decode cX11_kind 6 = .ok (.invokevirtual 265, 3) := by decide +kernel
theorem dX11_kind_9 : decode cX11_kind 9 = .ok (.ifCond .ne 9, 3) := by decide +kernel
theorem dX11_kind_12 : decode cX11_kind 12 = .ok (.aload_n 0, 1) := by decide +kernel
theorem dX11_kind_13 : decode cX11_kind 13 = .ok (.iconst 1, 1) := by decide +kernel
theorem dX11_kind_14 : decode cX11_kind 14 = .ok (.invokevirtual 115, 3) := by decide +kernel
theorem dX11_kind_17 : decode cX11_kind 17 = .ok (.ireturn, 1) := by decide +kernel
theorem dX11_kind_18 : decode cX11_kind 18 = .ok (.aload_n 0, 1) := by decide +kernel
theorem dX11_kind_19 : decode cX11_kind 19 = .ok (.iload_n 1, 1) := by decide +kernel
theorem dX11_kind_20 : decode cX11_kind 20 = .ok (.invokevirtual 271, 3) := by decide +kernel
theorem dX11_kind_23 : decode cX11_kind 23 = .ok (.ifCond .ne 5, 3) := by decide +kernel
theorem dX11_kind_26 : decode cX11_kind 26 = .ok (.iconst 5, 1) := by decide +kernel
theorem dX11_kind_27 : decode cX11_kind 27 = .ok (.ireturn, 1) := by decide +kernel
theorem dX11_kind_28 : decode cX11_kind 28 = .ok (.aload_n 0, 1) := by decide +kernel
theorem dX11_kind_29 : decode cX11_kind 29 = .ok (.iload_n 1, 1) := by decide +kernel
theorem dX11_kind_30 : decode cX11_kind 30 = .ok (.invokevirtual 268, 3) := by decide +kernel
theorem dX11_kind_33 : decode cX11_kind 33 = .ok (.ifCond .gt 18, 3) := by decide +kernel
theorem dX11_kind_36 : decode cX11_kind 36 = .ok (.aload_n 0, 1) := by decide +kernel
theorem dX11_kind_37 : decode cX11_kind 37 = .ok (.iload_n 1, 1) := by decide +kernel
theorem dX11_kind_38 : decode cX11_kind 38 = .ok (.invokevirtual 268, 3) := by decide +kernel
theorem dX11_kind_41 : decode cX11_kind 41 = .ok (.ifCond .ne 7, 3) := by decide +kernel
theorem dX11_kind_44 : decode cX11_kind 44 = .ok (.iconst 4, 1) := by decide +kernel
theorem dX11_kind_45 : decode cX11_kind 45 = .ok (.goto 5, 3) := by decide +kernel
theorem dX11_kind_48 : decode cX11_kind 48 = .ok (.bipush 6, 2) := by decide +kernel
theorem dX11_kind_50 : decode cX11_kind 50 = .ok (.ireturn, 1) := by decide +kernel
theorem dX11_kind_51 : decode cX11_kind 51 = .ok (.aload_n 0, 1) := by decide +kernel
theorem dX11_kind_52 : decode cX11_kind 52 = .ok (.iload_n 1, 1) := by decide +kernel
theorem dX11_kind_53 : decode cX11_kind 53 = .ok (.invokevirtual 262, 3) := by decide +kernel
theorem dX11_kind_56 : decode cX11_kind 56 = .ok (.tableswitch 34 0 2 #[30, 28, 32], 28) := by decide +kernel
theorem dX11_kind_84 : decode cX11_kind 84 = .ok (.iconst 0, 1) := by decide +kernel
theorem dX11_kind_85 : decode cX11_kind 85 = .ok (.ireturn, 1) := by decide +kernel
theorem dX11_kind_86 : decode cX11_kind 86 = .ok (.iconst 1, 1) := by decide +kernel
theorem dX11_kind_87 : decode cX11_kind 87 = .ok (.ireturn, 1) := by decide +kernel
theorem dX11_kind_88 : decode cX11_kind 88 = .ok (.iconst 2, 1) := by decide +kernel
theorem dX11_kind_89 : decode cX11_kind 89 = .ok (.ireturn, 1) := by decide +kernel
theorem dX11_kind_90 : decode cX11_kind 90 = .ok (.iconst 3, 1) := by decide +kernel
theorem dX11_kind_91 : decode cX11_kind 91 = .ok (.ireturn, 1) := by decide +kernel
theorem dX11_round_0 : decode cX11_round 0 = .ok (.aload_n 0, 1) := by decide +kernel
theorem dX11_round_1 : decode cX11_round 1 = .ok (.invokevirtual 104, 3) := by decide +kernel
theorem dX11_round_4 : decode cX11_round 4 = .ok (.aload_n 0, 1) := by decide +kernel
theorem dX11_round_5 : decode cX11_round 5 = .ok (.iload_n 1, 1) := by decide +kernel
theorem dX11_round_6 : decode cX11_round 6 = .ok (.invokevirtual 265, 3) := by decide +kernel
theorem dX11_round_9 : decode cX11_round 9 = .ok (.ifCond .eq 12, 3) := by decide +kernel
theorem dX11_round_12 : decode cX11_round 12 = .ok (.iload_n 2, 1) := by decide +kernel
theorem dX11_round_13 : decode cX11_round 13 = .ok (.iconst 0, 1) := by decide +kernel
theorem dX11_round_14 : decode cX11_round 14 = .ok (.iconst 3, 1) := by decide +kernel
theorem dX11_round_15 : decode cX11_round 15 = .ok (.invokestatic 107, 3) := by decide +kernel
theorem dX11_round_18 : decode cX11_round 18 = .ok (.ifCond .ne 11, 3) := by decide +kernel
theorem dX11_round_21 : decode cX11_round 21 = .ok (.aload_n 0, 1) := by decide +kernel
theorem dX11_round_22 : decode cX11_round 22 = .ok (.iconst 1, 1) := by decide +kernel
theorem dX11_round_23 : decode cX11_round 23 = .ok (.invokevirtual 115, 3) := by decide +kernel
theorem dX11_round_26 : decode cX11_round 26 = .ok (.goto 17, 3) := by decide +kernel
theorem dX11_round_29 : decode cX11_round 29 = .ok (.aload_n 0, 1) := by decide +kernel
theorem dX11_round_30 : decode cX11_round 30 = .ok (.iload_n 1, 1) := by decide +kernel
theorem dX11_round_31 : decode cX11_round 31 = .ok (.iload_n 2, 1) := by decide +kernel
theorem dX11_round_32 : decode cX11_round 32 = .ok (.invokevirtual 274, 3) := by decide +kernel
theorem dX11_round_35 : decode cX11_round 35 = .ok (.ifCond .eq 7, 3) := by decide +kernel
theorem dX11_round_38 : decode cX11_round 38 = .ok (.iconst 1, 1) := by decide +kernel
theorem dX11_round_39 : decode cX11_round 39 = .ok (.goto 4, 3) := by decide +kernel
theorem dX11_round_42 : decode cX11_round 42 = .ok (.iconst 0, 1) := by decide +kernel
theorem dX11_round_43 : decode cX11_round 43 = .ok (.ireturn, 1) := by decide +kernel
theorem dX11_nearCosine_0 : decode cX11_nearCosine 0 = .ok (.aload_n 0, 1) := by decide +kernel
theorem dX11_nearCosine_1 : decode cX11_nearCosine 1 = .ok (.iload_n 1, 1) := by decide +kernel
theorem dX11_nearCosine_2 : decode cX11_nearCosine 2 = .ok (.aload_n 0, 1) := by decide +kernel
theorem dX11_nearCosine_3 : decode cX11_nearCosine 3 = .ok (.iload_n 1, 1) := by decide +kernel
theorem dX11_nearCosine_4 : decode cX11_nearCosine 4 = .ok (.iconst 2, 1) := by decide +kernel
theorem dX11_nearCosine_5 : decode cX11_nearCosine 5 = .ok (.invokevirtual 252, 3) := by decide +kernel
theorem dX11_nearCosine_8 : decode cX11_nearCosine 8 = .ok (.aload_n 0, 1) := by decide +kernel
theorem dX11_nearCosine_9 : decode cX11_nearCosine 9 = .ok (.iload_n 1, 1) := by decide +kernel
theorem dX11_nearCosine_10 : decode cX11_nearCosine 10 = .ok (.iconst 3, 1) := by decide +kernel
theorem dX11_nearCosine_11 : decode cX11_nearCosine 11 = .ok (.invokevirtual 252, 3) := by decide +kernel
theorem dX11_nearCosine_14 : decode cX11_nearCosine 14 = .ok (.isub, 1) := by decide +kernel
theorem dX11_nearCosine_15 : decode cX11_nearCosine 15 = .ok (.invokevirtual 277, 3) := by decide +kernel
theorem dX11_nearCosine_18 : decode cX11_nearCosine 18 = .ok (.ireturn, 1) := by decide +kernel
theorem dX11_leastCosine_0 : decode cX11_leastCosine 0 = .ok (.aload_n 0, 1) := by decide +kernel
theorem dX11_leastCosine_1 : decode cX11_leastCosine 1 = .ok (.iload_n 1, 1) := by decide +kernel
theorem dX11_leastCosine_2 : decode cX11_leastCosine 2 = .ok (.invokevirtual 280, 3) := by decide +kernel
theorem dX11_leastCosine_5 : decode cX11_leastCosine 5 = .ok (.aload_n 0, 1) := by decide +kernel
theorem dX11_leastCosine_6 : decode cX11_leastCosine 6 = .ok (.iload_n 1, 1) := by decide +kernel
theorem dX11_leastCosine_7 : decode cX11_leastCosine 7 = .ok (.invokevirtual 283, 3) := by decide +kernel
theorem dX11_leastCosine_10 : decode cX11_leastCosine 10 = .ok (.ineg, 1) := by decide +kernel
theorem dX11_leastCosine_11 : decode cX11_leastCosine 11 = .ok (.if_icmp .ge 12, 3) := by decide +kernel
theorem dX11_leastCosine_14 : decode cX11_leastCosine 14 = .ok (.aload_n 0, 1) := by decide +kernel
theorem dX11_leastCosine_15 : decode cX11_leastCosine 15 = .ok (.iload_n 1, 1) := by decide +kernel
theorem dX11_leastCosine_16 : decode cX11_leastCosine 16 = .ok (.invokevirtual 283, 3) := by decide +kernel
theorem dX11_leastCosine_19 : decode cX11_leastCosine 19 = .ok (.ineg, 1) := by decide +kernel
theorem dX11_leastCosine_20 : decode cX11_leastCosine 20 = .ok (.goto 8, 3) := by decide +kernel
theorem dX11_leastCosine_23 : decode cX11_leastCosine 23 = .ok (.aload_n 0, 1) := by decide +kernel
theorem dX11_leastCosine_24 : decode cX11_leastCosine 24 = .ok (.iload_n 1, 1) := by decide +kernel
theorem dX11_leastCosine_25 : decode cX11_leastCosine 25 = .ok (.invokevirtual 280, 3) := by decide +kernel
theorem dX11_leastCosine_28 : decode cX11_leastCosine 28 = .ok (.ireturn, 1) := by decide +kernel
theorem dX11_mostCosine_0 : decode cX11_mostCosine 0 = .ok (.aload_n 0, 1) := by decide +kernel
theorem dX11_mostCosine_1 : decode cX11_mostCosine 1 = .ok (.iload_n 1, 1) := by decide +kernel
theorem dX11_mostCosine_2 : decode cX11_mostCosine 2 = .ok (.invokevirtual 286, 3) := by decide +kernel
theorem dX11_mostCosine_5 : decode cX11_mostCosine 5 = .ok (.aload_n 0, 1) := by decide +kernel
theorem dX11_mostCosine_6 : decode cX11_mostCosine 6 = .ok (.iload_n 1, 1) := by decide +kernel
theorem dX11_mostCosine_7 : decode cX11_mostCosine 7 = .ok (.invokevirtual 283, 3) := by decide +kernel
theorem dX11_mostCosine_10 : decode cX11_mostCosine 10 = .ok (.if_icmp .le 11, 3) := by decide +kernel
theorem dX11_mostCosine_13 : decode cX11_mostCosine 13 = .ok (.aload_n 0, 1) := by decide +kernel
theorem dX11_mostCosine_14 : decode cX11_mostCosine 14 = .ok (.iload_n 1, 1) := by decide +kernel
theorem dX11_mostCosine_15 : decode cX11_mostCosine 15 = .ok (.invokevirtual 283, 3) := by decide +kernel
theorem dX11_mostCosine_18 : decode cX11_mostCosine 18 = .ok (.goto 8, 3) := by decide +kernel
theorem dX11_mostCosine_21 : decode cX11_mostCosine 21 = .ok (.aload_n 0, 1) := by decide +kernel
theorem dX11_mostCosine_22 : decode cX11_mostCosine 22 = .ok (.iload_n 1, 1) := by decide +kernel
theorem dX11_mostCosine_23 : decode cX11_mostCosine 23 = .ok (.invokevirtual 286, 3) := by decide +kernel
theorem dX11_mostCosine_26 : decode cX11_mostCosine 26 = .ok (.ireturn, 1) := by decide +kernel
theorem dX11_least_0 : decode cX11_least 0 = .ok (.aload_n 0, 1) := by decide +kernel
theorem dX11_least_1 : decode cX11_least 1 = .ok (.invokevirtual 104, 3) := by decide +kernel
theorem dX11_least_4 : decode cX11_least 4 = .ok (.aload_n 0, 1) := by decide +kernel
theorem dX11_least_5 : decode cX11_least 5 = .ok (.iload_n 1, 1) := by decide +kernel
theorem dX11_least_6 : decode cX11_least 6 = .ok (.invokevirtual 265, 3) := by decide +kernel
theorem dX11_least_9 : decode cX11_least 9 = .ok (.ifCond .ne 11, 3) := by decide +kernel
theorem dX11_least_12 : decode cX11_least 12 = .ok (.aload_n 0, 1) := by decide +kernel
theorem dX11_least_13 : decode cX11_least 13 = .ok (.iconst 1, 1) := by decide +kernel
theorem dX11_least_14 : decode cX11_least 14 = .ok (.invokevirtual 304, 3) := by decide +kernel
theorem dX11_least_17 : decode cX11_least 17 = .ok (.goto 36, 3) := by decide +kernel
theorem dX11_least_20 : decode cX11_least 20 = .ok (.aload_n 0, 1) := by decide +kernel
theorem dX11_least_21 : decode cX11_least 21 = .ok (.iload_n 1, 1) := by decide +kernel
theorem dX11_least_22 : decode cX11_least 22 = .ok (.invokevirtual 298, 3) := by decide +kernel
theorem dX11_least_25 : decode cX11_least 25 = .ok (.ifCond .eq 23, 3) := by decide +kernel
theorem dX11_least_28 : decode cX11_least 28 = .ok (.aload_n 0, 1) := by decide +kernel
theorem dX11_least_29 : decode cX11_least 29 = .ok (.aload_n 0, 1) := by decide +kernel
theorem dX11_least_30 : decode cX11_least 30 = .ok (.iload_n 1, 1) := by decide +kernel
theorem dX11_least_31 : decode cX11_least 31 = .ok (.invokevirtual 289, 3) := by decide +kernel
theorem dX11_least_34 : decode cX11_least 34 = .ok (.i2l, 1) := by decide +kernel
theorem dX11_least_35 : decode cX11_least 35 = .ok (.aload_n 0, 1) := by decide +kernel
theorem dX11_least_36 : decode cX11_least 36 = .ok (.iload_n 1, 1) := by decide +kernel
theorem dX11_least_37 : decode cX11_least 37 = .ok (.invokevirtual 283, 3) := by decide +kernel
theorem dX11_least_40 : decode cX11_least 40 = .ok (.i2l, 1) := by decide +kernel
theorem dX11_least_41 : decode cX11_least 41 = .ok (.iload_n 2, 1) := by decide +kernel
theorem dX11_least_42 : decode cX11_least 42 = .ok (.invokevirtual 308, 3) := by decide +kernel
theorem dX11_least_45 : decode cX11_least 45 = .ok (.goto 8, 3) := by decide +kernel
theorem dX11_least_48 : decode cX11_least 48 = .ok (.aload_n 0, 1) := by decide +kernel
theorem dX11_least_49 : decode cX11_least 49 = .ok (.iconst 5, 1) := by decide +kernel
theorem dX11_least_50 : decode cX11_least 50 = .ok (.invokevirtual 304, 3) := by decide +kernel
theorem dX11_least_53 : decode cX11_least 53 = .ok (.lreturn, 1) := by decide +kernel
theorem dX11_most_0 : decode cX11_most 0 = .ok (.aload_n 0, 1) := by decide +kernel
theorem dX11_most_1 : decode cX11_most 1 = .ok (.invokevirtual 104, 3) := by decide +kernel
theorem dX11_most_4 : decode cX11_most 4 = .ok (.aload_n 0, 1) := by decide +kernel
theorem dX11_most_5 : decode cX11_most 5 = .ok (.iload_n 1, 1) := by decide +kernel
theorem dX11_most_6 : decode cX11_most 6 = .ok (.invokevirtual 265, 3) := by decide +kernel
theorem dX11_most_9 : decode cX11_most 9 = .ok (.ifCond .ne 11, 3) := by decide +kernel
theorem dX11_most_12 : decode cX11_most 12 = .ok (.aload_n 0, 1) := by decide +kernel
theorem dX11_most_13 : decode cX11_most 13 = .ok (.iconst 1, 1) := by decide +kernel
theorem dX11_most_14 : decode cX11_most 14 = .ok (.invokevirtual 304, 3) := by decide +kernel
theorem dX11_most_17 : decode cX11_most 17 = .ok (.goto 36, 3) := by decide +kernel
theorem dX11_most_20 : decode cX11_most 20 = .ok (.aload_n 0, 1) := by decide +kernel
theorem dX11_most_21 : decode cX11_most 21 = .ok (.iload_n 1, 1) := by decide +kernel
theorem dX11_most_22 : decode cX11_most 22 = .ok (.invokevirtual 298, 3) := by decide +kernel
theorem dX11_most_25 : decode cX11_most 25 = .ok (.ifCond .eq 23, 3) := by decide +kernel
theorem dX11_most_28 : decode cX11_most 28 = .ok (.aload_n 0, 1) := by decide +kernel
theorem dX11_most_29 : decode cX11_most 29 = .ok (.aload_n 0, 1) := by decide +kernel
theorem dX11_most_30 : decode cX11_most 30 = .ok (.iload_n 1, 1) := by decide +kernel
theorem dX11_most_31 : decode cX11_most 31 = .ok (.invokevirtual 292, 3) := by decide +kernel
theorem dX11_most_34 : decode cX11_most 34 = .ok (.i2l, 1) := by decide +kernel
theorem dX11_most_35 : decode cX11_most 35 = .ok (.aload_n 0, 1) := by decide +kernel
theorem dX11_most_36 : decode cX11_most 36 = .ok (.iload_n 1, 1) := by decide +kernel
theorem dX11_most_37 : decode cX11_most 37 = .ok (.invokevirtual 283, 3) := by decide +kernel
theorem dX11_most_40 : decode cX11_most 40 = .ok (.i2l, 1) := by decide +kernel
theorem dX11_most_41 : decode cX11_most 41 = .ok (.iload_n 2, 1) := by decide +kernel
theorem dX11_most_42 : decode cX11_most 42 = .ok (.invokevirtual 308, 3) := by decide +kernel
theorem dX11_most_45 : decode cX11_most 45 = .ok (.goto 8, 3) := by decide +kernel
theorem dX11_most_48 : decode cX11_most 48 = .ok (.aload_n 0, 1) := by decide +kernel
theorem dX11_most_49 : decode cX11_most 49 = .ok (.iconst 5, 1) := by decide +kernel
theorem dX11_most_50 : decode cX11_most 50 = .ok (.invokevirtual 304, 3) := by decide +kernel
theorem dX11_most_53 : decode cX11_most 53 = .ok (.lreturn, 1) := by decide +kernel
theorem dX11_swing_0 : decode cX11_swing 0 = .ok (.aload_n 0, 1) := by decide +kernel
theorem dX11_swing_1 : decode cX11_swing 1 = .ok (.invokevirtual 104, 3) := by decide +kernel
theorem dX11_swing_4 : decode cX11_swing 4 = .ok (.aload_n 0, 1) := by decide +kernel
theorem dX11_swing_5 : decode cX11_swing 5 = .ok (.iload_n 1, 1) := by decide +kernel
theorem dX11_swing_6 : decode cX11_swing 6 = .ok (.invokevirtual 265, 3) := by decide +kernel
theorem dX11_swing_9 : decode cX11_swing 9 = .ok (.ifCond .ne 9, 3) := by decide +kernel
theorem dX11_swing_12 : decode cX11_swing 12 = .ok (.aload_n 0, 1) := by decide +kernel
theorem dX11_swing_13 : decode cX11_swing 13 = .ok (.iconst 1, 1) := by decide +kernel
theorem dX11_swing_14 : decode cX11_swing 14 = .ok (.invokevirtual 304, 3) := by decide +kernel
theorem dX11_swing_17 : decode cX11_swing 17 = .ok (.lreturn, 1) := by decide +kernel
theorem dX11_swing_18 : decode cX11_swing 18 = .ok (.aload_n 0, 1) := by decide +kernel
theorem dX11_swing_19 : decode cX11_swing 19 = .ok (.iload_n 1, 1) := by decide +kernel
theorem dX11_swing_20 : decode cX11_swing 20 = .ok (.invokevirtual 298, 3) := by decide +kernel
theorem dX11_swing_23 : decode cX11_swing 23 = .ok (.ifCond .ne 9, 3) := by decide +kernel
theorem dX11_swing_26 : decode cX11_swing 26 = .ok (.aload_n 0, 1) := by decide +kernel
theorem dX11_swing_27 : decode cX11_swing 27 = .ok (.iconst 5, 1) := by decide +kernel
theorem dX11_swing_28 : decode cX11_swing 28 = .ok (.invokevirtual 304, 3) := by decide +kernel
theorem dX11_swing_31 : decode cX11_swing 31 = .ok (.lreturn, 1) := by decide +kernel
theorem dX11_swing_32 : decode cX11_swing 32 = .ok (.aload_n 0, 1) := by decide +kernel
theorem dX11_swing_33 : decode cX11_swing 33 = .ok (.iload_n 1, 1) := by decide +kernel
theorem dX11_swing_34 : decode cX11_swing 34 = .ok (.iconst 0, 1) := by decide +kernel
theorem dX11_swing_35 : decode cX11_swing 35 = .ok (.invokevirtual 252, 3) := by decide +kernel
theorem dX11_swing_38 : decode cX11_swing 38 = .ok (.istore 4, 2) := by decide +kernel
theorem dX11_swing_40 : decode cX11_swing 40 = .ok (.aload_n 0, 1) := by decide +kernel
theorem dX11_swing_41 : decode cX11_swing 41 = .ok (.iload_n 1, 1) := by decide +kernel
theorem dX11_swing_42 : decode cX11_swing 42 = .ok (.iconst 1, 1) := by decide +kernel
theorem dX11_swing_43 : decode cX11_swing 43 = .ok (.invokevirtual 252, 3) := by decide +kernel
theorem dX11_swing_46 : decode cX11_swing 46 = .ok (.istore 5, 2) := by decide +kernel
theorem dX11_swing_48 : decode cX11_swing 48 = .ok (.aload_n 0, 1) := by decide +kernel
theorem dX11_swing_49 : decode cX11_swing 49 = .ok (.iload_n 1, 1) := by decide +kernel
theorem dX11_swing_50 : decode cX11_swing 50 = .ok (.iconst 2, 1) := by decide +kernel
theorem dX11_swing_51 : decode cX11_swing 51 = .ok (.invokevirtual 252, 3) := by decide +kernel
theorem dX11_swing_54 : decode cX11_swing 54 = .ok (.istore 6, 2) := by decide +kernel
theorem dX11_swing_56 : decode cX11_swing 56 = .ok (.aload_n 0, 1) := by decide +kernel
theorem dX11_swing_57 : decode cX11_swing 57 = .ok (.iload_n 1, 1) := by decide +kernel
theorem dX11_swing_58 : decode cX11_swing 58 = .ok (.iconst 3, 1) := by decide +kernel
theorem dX11_swing_59 : decode cX11_swing 59 = .ok (.invokevirtual 252, 3) := by decide +kernel
theorem dX11_swing_62 : decode cX11_swing 62 = .ok (.istore 7, 2) := by decide +kernel
theorem dX11_swing_64 : decode cX11_swing 64 = .ok (.aload_n 0, 1) := by decide +kernel
theorem dX11_swing_65 : decode cX11_swing 65 = .ok (.iload 6, 2) := by decide +kernel
theorem dX11_swing_67 : decode cX11_swing 67 = .ok (.iload 6, 2) := by decide +kernel
theorem dX11_swing_69 : decode cX11_swing 69 = .ok (.imul, 1) := by decide +kernel
theorem dX11_swing_70 : decode cX11_swing 70 = .ok (.iload 7, 2) := by decide +kernel
theorem dX11_swing_72 : decode cX11_swing 72 = .ok (.iload 7, 2) := by decide +kernel
theorem dX11_swing_74 : decode cX11_swing 74 = .ok (.imul, 1) := by decide +kernel
theorem dX11_swing_75 : decode cX11_swing 75 = .ok (.iadd, 1) := by decide +kernel
theorem dX11_swing_76 : decode cX11_swing 76 = .ok (.iload 4, 2) := by decide +kernel
theorem dX11_swing_78 : decode cX11_swing 78 = .ok (.iload 4, 2) := by decide +kernel
theorem dX11_swing_80 : decode cX11_swing 80 = .ok (.imul, 1) := by decide +kernel
theorem dX11_swing_81 : decode cX11_swing 81 = .ok (.isub, 1) := by decide +kernel
theorem dX11_swing_82 : decode cX11_swing 82 = .ok (.iload 5, 2) := by decide +kernel
theorem dX11_swing_84 : decode cX11_swing 84 = .ok (.iload 5, 2) := by decide +kernel
theorem dX11_swing_86 : decode cX11_swing 86 = .ok (.imul, 1) := by decide +kernel
theorem dX11_swing_87 : decode cX11_swing 87 = .ok (.isub, 1) := by decide +kernel
theorem dX11_swing_88 : decode cX11_swing 88 = .ok (.iload_n 2, 1) := by decide +kernel
theorem dX11_swing_89 : decode cX11_swing 89 = .ok (.ifCond .eq 11, 3) := by decide +kernel
theorem dX11_swing_92 : decode cX11_swing 92 = .ok (.aload_n 0, 1) := by decide +kernel
theorem dX11_swing_93 : decode cX11_swing 93 = .ok (.iload_n 1, 1) := by decide +kernel
theorem dX11_swing_94 : decode cX11_swing 94 = .ok (.invokevirtual 292, 3) := by decide +kernel
theorem dX11_swing_97 : decode cX11_swing 97 = .ok (.goto 8, 3) := by decide +kernel
theorem dX11_swing_100 : decode cX11_swing 100 = .ok (.aload_n 0, 1) := by decide +kernel
theorem dX11_swing_101 : decode cX11_swing 101 = .ok (.iload_n 1, 1) := by decide +kernel
theorem dX11_swing_102 : decode cX11_swing 102 = .ok (.invokevirtual 289, 3) := by decide +kernel
theorem dX11_swing_105 : decode cX11_swing 105 = .ok (.iadd, 1) := by decide +kernel
theorem dX11_swing_106 : decode cX11_swing 106 = .ok (.i2l, 1) := by decide +kernel
theorem dX11_swing_107 : decode cX11_swing 107 = .ok (.ldc2_w 344, 3) := by decide +kernel
theorem dX11_swing_110 : decode cX11_swing 110 = .ok (.iload 6, 2) := by decide +kernel
theorem dX11_swing_112 : decode cX11_swing 112 = .ok (.i2l, 1) := by decide +kernel
theorem dX11_swing_113 : decode cX11_swing 113 = .ok (.lmul, 1) := by decide +kernel
theorem dX11_swing_114 : decode cX11_swing 114 = .ok (.iload 7, 2) := by decide +kernel
theorem dX11_swing_116 : decode cX11_swing 116 = .ok (.i2l, 1) := by decide +kernel
theorem dX11_swing_117 : decode cX11_swing 117 = .ok (.lmul, 1) := by decide +kernel
theorem dX11_swing_118 : decode cX11_swing 118 = .ok (.iload_n 3, 1) := by decide +kernel
theorem dX11_swing_119 : decode cX11_swing 119 = .ok (.invokevirtual 308, 3) := by decide +kernel
theorem dX11_swing_122 : decode cX11_swing 122 = .ok (.lreturn, 1) := by decide +kernel
theorem dX11_lays_0 : decode cX11_lays 0 = .ok (.aload_n 0, 1) := by decide +kernel
theorem dX11_lays_1 : decode cX11_lays 1 = .ok (.getfield 32, 3) := by decide +kernel
theorem dX11_lays_4 : decode cX11_lays 4 = .ok (.iload_n 2, 1) := by decide +kernel
theorem dX11_lays_5 : decode cX11_lays 5 = .ok (.iaload, 1) := by decide +kernel
theorem dX11_lays_6 : decode cX11_lays 6 = .ok (.i2l, 1) := by decide +kernel
theorem dX11_lays_7 : decode cX11_lays 7 = .ok (.lstore_n 3, 1) := by decide +kernel
theorem dX11_lays_8 : decode cX11_lays 8 = .ok (.aload_n 0, 1) := by decide +kernel
theorem dX11_lays_9 : decode cX11_lays 9 = .ok (.getfield 36, 3) := by decide +kernel
theorem dX11_lays_12 : decode cX11_lays 12 = .ok (.iload_n 2, 1) := by decide +kernel
theorem dX11_lays_13 : decode cX11_lays 13 = .ok (.iaload, 1) := by decide +kernel
theorem dX11_lays_14 : decode cX11_lays 14 = .ok (.i2l, 1) := by decide +kernel
theorem dX11_lays_15 : decode cX11_lays 15 = .ok (.lstore 5, 2) := by decide +kernel
theorem dX11_lays_17 : decode cX11_lays 17 = .ok (.aload_n 0, 1) := by decide +kernel
theorem dX11_lays_18 : decode cX11_lays 18 = .ok (.iload_n 1, 1) := by decide +kernel
theorem dX11_lays_19 : decode cX11_lays 19 = .ok (.iconst 2, 1) := by decide +kernel
theorem dX11_lays_20 : decode cX11_lays 20 = .ok (.invokevirtual 252, 3) := by decide +kernel
theorem dX11_lays_23 : decode cX11_lays 23 = .ok (.i2l, 1) := by decide +kernel
theorem dX11_lays_24 : decode cX11_lays 24 = .ok (.lstore 7, 2) := by decide +kernel
theorem dX11_lays_26 : decode cX11_lays 26 = .ok (.aload_n 0, 1) := by decide +kernel
theorem dX11_lays_27 : decode cX11_lays 27 = .ok (.iload_n 1, 1) := by decide +kernel
theorem dX11_lays_28 : decode cX11_lays 28 = .ok (.iconst 3, 1) := by decide +kernel
theorem dX11_lays_29 : decode cX11_lays 29 = .ok (.invokevirtual 252, 3) := by decide +kernel
theorem dX11_lays_32 : decode cX11_lays 32 = .ok (.i2l, 1) := by decide +kernel
theorem dX11_lays_33 : decode cX11_lays 33 = .ok (.lstore 9, 2) := by decide +kernel
theorem dX11_lays_35 : decode cX11_lays 35 = .ok (.aload_n 0, 1) := by decide +kernel
theorem dX11_lays_36 : decode cX11_lays 36 = .ok (.aload_n 0, 1) := by decide +kernel
theorem dX11_lays_37 : decode cX11_lays 37 = .ok (.iload_n 1, 1) := by decide +kernel
theorem dX11_lays_38 : decode cX11_lays 38 = .ok (.iconst 0, 1) := by decide +kernel
theorem dX11_lays_39 : decode cX11_lays 39 = .ok (.invokevirtual 252, 3) := by decide +kernel
theorem dX11_lays_42 : decode cX11_lays 42 = .ok (.i2l, 1) := by decide +kernel
theorem dX11_lays_43 : decode cX11_lays 43 = .ok (.putfield 346, 3) := by decide +kernel
theorem dX11_lays_46 : decode cX11_lays 46 = .ok (.aload_n 0, 1) := by decide +kernel
theorem dX11_lays_47 : decode cX11_lays 47 = .ok (.aload_n 0, 1) := by decide +kernel
theorem dX11_lays_48 : decode cX11_lays 48 = .ok (.iload_n 1, 1) := by decide +kernel
theorem dX11_lays_49 : decode cX11_lays 49 = .ok (.iconst 1, 1) := by decide +kernel
theorem dX11_lays_50 : decode cX11_lays 50 = .ok (.invokevirtual 252, 3) := by decide +kernel
theorem dX11_lays_53 : decode cX11_lays 53 = .ok (.i2l, 1) := by decide +kernel
theorem dX11_lays_54 : decode cX11_lays 54 = .ok (.putfield 349, 3) := by decide +kernel
theorem dX11_lays_57 : decode cX11_lays 57 = .ok (.aload_n 0, 1) := by decide +kernel
theorem dX11_lays_58 : decode cX11_lays 58 = .ok (.lload_n 3, 1) := by decide +kernel
theorem dX11_lays_59 : decode cX11_lays 59 = .ok (.lload_n 3, 1) := by decide +kernel
theorem dX11_lays_60 : decode cX11_lays 60 = .ok (.lmul, 1) := by decide +kernel
theorem dX11_lays_61 : decode cX11_lays 61 = .ok (.lload 5, 2) := by decide +kernel
theorem dX11_lays_63 : decode cX11_lays 63 = .ok (.lload 5, 2) := by decide +kernel
theorem dX11_lays_65 : decode cX11_lays 65 = .ok (.lmul, 1) := by decide +kernel
theorem dX11_lays_66 : decode cX11_lays 66 = .ok (.ladd, 1) := by decide +kernel
theorem dX11_lays_67 : decode cX11_lays 67 = .ok (.putfield 328, 3) := by decide +kernel
theorem dX11_lays_70 : decode cX11_lays 70 = .ok (.aload_n 0, 1) := by decide +kernel
theorem dX11_lays_71 : decode cX11_lays 71 = .ok (.lload 5, 2) := by decide +kernel
theorem dX11_lays_73 : decode cX11_lays 73 = .ok (.lload 5, 2) := by decide +kernel
theorem dX11_lays_75 : decode cX11_lays 75 = .ok (.lmul, 1) := by decide +kernel
theorem dX11_lays_76 : decode cX11_lays 76 = .ok (.lload_n 3, 1) := by decide +kernel
theorem dX11_lays_77 : decode cX11_lays 77 = .ok (.lload_n 3, 1) := by decide +kernel
theorem dX11_lays_78 : decode cX11_lays 78 = .ok (.lmul, 1) := by decide +kernel
theorem dX11_lays_79 : decode cX11_lays 79 = .ok (.lsub, 1) := by decide +kernel
theorem dX11_lays_80 : decode cX11_lays 80 = .ok (.putfield 331, 3) := by decide +kernel
theorem dX11_lays_83 : decode cX11_lays 83 = .ok (.aload_n 0, 1) := by decide +kernel
theorem dX11_lays_84 : decode cX11_lays 84 = .ok (.ldc2_w 344, 3) := by decide +kernel
theorem dX11_lays_87 : decode cX11_lays 87 = .ok (.lload_n 3, 1) := by decide +kernel
theorem dX11_lays_88 : decode cX11_lays 88 = .ok (.lmul, 1) := by decide +kernel
theorem dX11_lays_89 : decode cX11_lays 89 = .ok (.lload 5, 2) := by decide +kernel
theorem dX11_lays_91 : decode cX11_lays 91 = .ok (.lmul, 1) := by decide +kernel
theorem dX11_lays_92 : decode cX11_lays 92 = .ok (.putfield 352, 3) := by decide +kernel
theorem dX11_lays_95 : decode cX11_lays 95 = .ok (.aload_n 0, 1) := by decide +kernel
theorem dX11_lays_96 : decode cX11_lays 96 = .ok (.aload_n 0, 1) := by decide +kernel
theorem dX11_lays_97 : decode cX11_lays 97 = .ok (.getfield 346, 3) := by decide +kernel
theorem dX11_lays_100 : decode cX11_lays 100 = .ok (.aload_n 0, 1) := by decide +kernel
theorem dX11_lays_101 : decode cX11_lays 101 = .ok (.getfield 346, 3) := by decide +kernel
theorem dX11_lays_104 : decode cX11_lays 104 = .ok (.lmul, 1) := by decide +kernel
theorem dX11_lays_105 : decode cX11_lays 105 = .ok (.aload_n 0, 1) := by decide +kernel
theorem dX11_lays_106 : decode cX11_lays 106 = .ok (.getfield 349, 3) := by decide +kernel
theorem dX11_lays_109 : decode cX11_lays 109 = .ok (.aload_n 0, 1) := by decide +kernel
theorem dX11_lays_110 : decode cX11_lays 110 = .ok (.getfield 349, 3) := by decide +kernel
theorem dX11_lays_113 : decode cX11_lays 113 = .ok (.lmul, 1) := by decide +kernel
theorem dX11_lays_114 : decode cX11_lays 114 = .ok (.ladd, 1) := by decide +kernel
theorem dX11_lays_115 : decode cX11_lays 115 = .ok (.aload_n 0, 1) := by decide +kernel
theorem dX11_lays_116 : decode cX11_lays 116 = .ok (.getfield 328, 3) := by decide +kernel
theorem dX11_lays_119 : decode cX11_lays 119 = .ok (.lmul, 1) := by decide +kernel
theorem dX11_lays_120 : decode cX11_lays 120 = .ok (.ldc2_w 344, 3) := by decide +kernel
theorem dX11_lays_123 : decode cX11_lays 123 = .ok (.aload_n 0, 1) := by decide +kernel
theorem dX11_lays_124 : decode cX11_lays 124 = .ok (.getfield 346, 3) := by decide +kernel
theorem dX11_lays_127 : decode cX11_lays 127 = .ok (.lmul, 1) := by decide +kernel
theorem dX11_lays_128 : decode cX11_lays 128 = .ok (.aload_n 0, 1) := by decide +kernel
theorem dX11_lays_129 : decode cX11_lays 129 = .ok (.getfield 349, 3) := by decide +kernel
theorem dX11_lays_132 : decode cX11_lays 132 = .ok (.lmul, 1) := by decide +kernel
theorem dX11_lays_133 : decode cX11_lays 133 = .ok (.aload_n 0, 1) := by decide +kernel
theorem dX11_lays_134 : decode cX11_lays 134 = .ok (.getfield 331, 3) := by decide +kernel
theorem dX11_lays_137 : decode cX11_lays 137 = .ok (.lmul, 1) := by decide +kernel
theorem dX11_lays_138 : decode cX11_lays 138 = .ok (.lsub, 1) := by decide +kernel
theorem dX11_lays_139 : decode cX11_lays 139 = .ok (.putfield 355, 3) := by decide +kernel
theorem dX11_lays_142 : decode cX11_lays 142 = .ok (.aload_n 0, 1) := by decide +kernel
theorem dX11_lays_143 : decode cX11_lays 143 = .ok (.aload_n 0, 1) := by decide +kernel
theorem dX11_lays_144 : decode cX11_lays 144 = .ok (.getfield 355, 3) := by decide +kernel
theorem dX11_lays_147 : decode cX11_lays 147 = .ok (.lload 7, 2) := by decide +kernel
theorem dX11_lays_149 : decode cX11_lays 149 = .ok (.lload 7, 2) := by decide +kernel
theorem dX11_lays_151 : decode cX11_lays 151 = .ok (.lmul, 1) := by decide +kernel
theorem dX11_lays_152 : decode cX11_lays 152 = .ok (.lload 9, 2) := by decide +kernel
theorem dX11_lays_154 : decode cX11_lays 154 = .ok (.lload 9, 2) := by decide +kernel
theorem dX11_lays_156 : decode cX11_lays 156 = .ok (.lmul, 1) := by decide +kernel
theorem dX11_lays_157 : decode cX11_lays 157 = .ok (.lsub, 1) := by decide +kernel
theorem dX11_lays_158 : decode cX11_lays 158 = .ok (.aload_n 0, 1) := by decide +kernel
theorem dX11_lays_159 : decode cX11_lays 159 = .ok (.getfield 328, 3) := by decide +kernel
theorem dX11_lays_162 : decode cX11_lays 162 = .ok (.lmul, 1) := by decide +kernel
theorem dX11_lays_163 : decode cX11_lays 163 = .ok (.ladd, 1) := by decide +kernel
theorem dX11_lays_164 : decode cX11_lays 164 = .ok (.putfield 358, 3) := by decide +kernel
theorem dX11_lays_167 : decode cX11_lays 167 = .ok (.aload_n 0, 1) := by decide +kernel
theorem dX11_lays_168 : decode cX11_lays 168 = .ok (.ldc2_w 361, 3) := by decide +kernel
theorem dX11_lays_171 : decode cX11_lays 171 = .ok (.lload 7, 2) := by decide +kernel
theorem dX11_lays_173 : decode cX11_lays 173 = .ok (.lmul, 1) := by decide +kernel
theorem dX11_lays_174 : decode cX11_lays 174 = .ok (.lload 7, 2) := by decide +kernel
theorem dX11_lays_176 : decode cX11_lays 176 = .ok (.lmul, 1) := by decide +kernel
theorem dX11_lays_177 : decode cX11_lays 177 = .ok (.aload_n 0, 1) := by decide +kernel
theorem dX11_lays_178 : decode cX11_lays 178 = .ok (.getfield 355, 3) := by decide +kernel
theorem dX11_lays_181 : decode cX11_lays 181 = .ok (.lmul, 1) := by decide +kernel
theorem dX11_lays_182 : decode cX11_lays 182 = .ok (.aload_n 0, 1) := by decide +kernel
theorem dX11_lays_183 : decode cX11_lays 183 = .ok (.getfield 328, 3) := by decide +kernel
theorem dX11_lays_186 : decode cX11_lays 186 = .ok (.lmul, 1) := by decide +kernel
theorem dX11_lays_187 : decode cX11_lays 187 = .ok (.aload_n 0, 1) := by decide +kernel
theorem dX11_lays_188 : decode cX11_lays 188 = .ok (.getfield 358, 3) := by decide +kernel
theorem dX11_lays_191 : decode cX11_lays 191 = .ok (.aload_n 0, 1) := by decide +kernel
theorem dX11_lays_192 : decode cX11_lays 192 = .ok (.getfield 358, 3) := by decide +kernel
theorem dX11_lays_195 : decode cX11_lays 195 = .ok (.lmul, 1) := by decide +kernel
theorem dX11_lays_196 : decode cX11_lays 196 = .ok (.lsub, 1) := by decide +kernel
theorem dX11_lays_197 : decode cX11_lays 197 = .ok (.putfield 321, 3) := by decide +kernel
theorem dX11_lays_200 : decode cX11_lays 200 = .ok (.aload_n 0, 1) := by decide +kernel
theorem dX11_lays_201 : decode cX11_lays 201 = .ok (.aload_n 0, 1) := by decide +kernel
theorem dX11_lays_202 : decode cX11_lays 202 = .ok (.getfield 346, 3) := by decide +kernel
theorem dX11_lays_205 : decode cX11_lays 205 = .ok (.aload_n 0, 1) := by decide +kernel
theorem dX11_lays_206 : decode cX11_lays 206 = .ok (.getfield 328, 3) := by decide +kernel
theorem dX11_lays_209 : decode cX11_lays 209 = .ok (.lmul, 1) := by decide +kernel
theorem dX11_lays_210 : decode cX11_lays 210 = .ok (.aload_n 0, 1) := by decide +kernel
theorem dX11_lays_211 : decode cX11_lays 211 = .ok (.getfield 349, 3) := by decide +kernel
theorem dX11_lays_214 : decode cX11_lays 214 = .ok (.aload_n 0, 1) := by decide +kernel
theorem dX11_lays_215 : decode cX11_lays 215 = .ok (.getfield 331, 3) := by decide +kernel
theorem dX11_lays_218 : decode cX11_lays 218 = .ok (.lmul, 1) := by decide +kernel
theorem dX11_lays_219 : decode cX11_lays 219 = .ok (.lsub, 1) := by decide +kernel
theorem dX11_lays_220 : decode cX11_lays 220 = .ok (.putfield 363, 3) := by decide +kernel
theorem dX11_lays_223 : decode cX11_lays 223 = .ok (.aload_n 0, 1) := by decide +kernel
theorem dX11_lays_224 : decode cX11_lays 224 = .ok (.aload_n 0, 1) := by decide +kernel
theorem dX11_lays_225 : decode cX11_lays 225 = .ok (.getfield 349, 3) := by decide +kernel
theorem dX11_lays_228 : decode cX11_lays 228 = .ok (.lneg, 1) := by decide +kernel
theorem dX11_lays_229 : decode cX11_lays 229 = .ok (.aload_n 0, 1) := by decide +kernel
theorem dX11_lays_230 : decode cX11_lays 230 = .ok (.getfield 352, 3) := by decide +kernel
theorem dX11_lays_233 : decode cX11_lays 233 = .ok (.lmul, 1) := by decide +kernel
theorem dX11_lays_234 : decode cX11_lays 234 = .ok (.putfield 366, 3) := by decide +kernel
theorem dX11_lays_237 : decode cX11_lays 237 = .ok (.return_, 1) := by decide +kernel
theorem dX11_lawful_0 : decode cX11_lawful 0 = .ok (.aload_n 0, 1) := by decide +kernel
theorem dX11_lawful_1 : decode cX11_lawful 1 = .ok (.invokevirtual 104, 3) := by decide +kernel
theorem dX11_lawful_4 : decode cX11_lawful 4 = .ok (.aload_n 0, 1) := by decide +kernel
theorem dX11_lawful_5 : decode cX11_lawful 5 = .ok (.iload_n 1, 1) := by decide +kernel
theorem dX11_lawful_6 : decode cX11_lawful 6 = .ok (.invokevirtual 265, 3) := by decide +kernel
theorem dX11_lawful_9 : decode cX11_lawful 9 = .ok (.ifCond .eq 11, 3) := by decide +kernel
theorem dX11_lawful_12 : decode cX11_lawful 12 = .ok (.aload_n 0, 1) := by decide +kernel
theorem dX11_lawful_13 : decode cX11_lawful 13 = .ok (.iload_n 2, 1) := by decide +kernel
theorem dX11_lawful_14 : decode cX11_lawful 14 = .ok (.invokevirtual 334, 3) := by decide +kernel
theorem dX11_lawful_17 : decode cX11_lawful 17 = .ok (.ifCond .ne 9, 3) := by decide +kernel
theorem dX11_lawful_20 : decode cX11_lawful 20 = .ok (.aload_n 0, 1) := by decide +kernel
theorem dX11_lawful_21 : decode cX11_lawful 21 = .ok (.iconst 1, 1) := by decide +kernel
theorem dX11_lawful_22 : decode cX11_lawful 22 = .ok (.invokevirtual 115, 3) := by decide +kernel
theorem dX11_lawful_25 : decode cX11_lawful 25 = .ok (.ireturn, 1) := by decide +kernel
theorem dX11_lawful_26 : decode cX11_lawful 26 = .ok (.aload_n 0, 1) := by decide +kernel
theorem dX11_lawful_27 : decode cX11_lawful 27 = .ok (.iload_n 1, 1) := by decide +kernel
theorem dX11_lawful_28 : decode cX11_lawful 28 = .ok (.iload_n 2, 1) := by decide +kernel
theorem dX11_lawful_29 : decode cX11_lawful 29 = .ok (.invokevirtual 318, 3) := by decide +kernel
theorem dX11_lawful_32 : decode cX11_lawful 32 = .ok (.ifCond .ne 7, 3) := by decide +kernel
theorem dX11_lawful_35 : decode cX11_lawful 35 = .ok (.iconst 0, 1) := by decide +kernel
theorem dX11_lawful_36 : decode cX11_lawful 36 = .ok (.goto 17, 3) := by decide +kernel
theorem dX11_lawful_39 : decode cX11_lawful 39 = .ok (.aload_n 0, 1) := by decide +kernel
theorem dX11_lawful_40 : decode cX11_lawful 40 = .ok (.getfield 321, 3) := by decide +kernel
theorem dX11_lawful_43 : decode cX11_lawful 43 = .ok (.lconst 0, 1) := by decide +kernel
theorem dX11_lawful_44 : decode cX11_lawful 44 = .ok (.lcmp, 1) := by decide +kernel
theorem dX11_lawful_45 : decode cX11_lawful 45 = .ok (.ifCond .ne 7, 3) := by decide +kernel
theorem dX11_lawful_48 : decode cX11_lawful 48 = .ok (.iconst 2, 1) := by decide +kernel
theorem dX11_lawful_49 : decode cX11_lawful 49 = .ok (.goto 4, 3) := by decide +kernel
theorem dX11_lawful_52 : decode cX11_lawful 52 = .ok (.iconst 1, 1) := by decide +kernel
theorem dX11_lawful_53 : decode cX11_lawful 53 = .ok (.ireturn, 1) := by decide +kernel
theorem dX11_lawfuls_0 : decode cX11_lawfuls 0 = .ok (.aload_n 0, 1) := by decide +kernel
theorem dX11_lawfuls_1 : decode cX11_lawfuls 1 = .ok (.invokevirtual 104, 3) := by decide +kernel
theorem dX11_lawfuls_4 : decode cX11_lawfuls 4 = .ok (.aload_n 0, 1) := by decide +kernel
theorem dX11_lawfuls_5 : decode cX11_lawfuls 5 = .ok (.iload_n 1, 1) := by decide +kernel
theorem dX11_lawfuls_6 : decode cX11_lawfuls 6 = .ok (.invokevirtual 265, 3) := by decide +kernel
theorem dX11_lawfuls_9 : decode cX11_lawfuls 9 = .ok (.ifCond .ne 9, 3) := by decide +kernel
theorem dX11_lawfuls_12 : decode cX11_lawfuls 12 = .ok (.aload_n 0, 1) := by decide +kernel
theorem dX11_lawfuls_13 : decode cX11_lawfuls 13 = .ok (.iconst 1, 1) := by decide +kernel
theorem dX11_lawfuls_14 : decode cX11_lawfuls 14 = .ok (.invokevirtual 115, 3) := by decide +kernel
theorem dX11_lawfuls_17 : decode cX11_lawfuls 17 = .ok (.ireturn, 1) := by decide +kernel
theorem dX11_lawfuls_18 : decode cX11_lawfuls 18 = .ok (.iconst 0, 1) := by decide +kernel
theorem dX11_lawfuls_19 : decode cX11_lawfuls 19 = .ok (.istore_n 2, 1) := by decide +kernel
theorem dX11_lawfuls_20 : decode cX11_lawfuls 20 = .ok (.iconst 0, 1) := by decide +kernel
theorem dX11_lawfuls_21 : decode cX11_lawfuls 21 = .ok (.istore_n 3, 1) := by decide +kernel
theorem dX11_lawfuls_22 : decode cX11_lawfuls 22 = .ok (.iload_n 3, 1) := by decide +kernel
theorem dX11_lawfuls_23 : decode cX11_lawfuls 23 = .ok (.aload_n 0, 1) := by decide +kernel
theorem dX11_lawfuls_24 : decode cX11_lawfuls 24 = .ok (.getfield 101, 3) := by decide +kernel
theorem dX11_lawfuls_27 : decode cX11_lawfuls 27 = .ok (.if_icmp .ge 26, 3) := by decide +kernel
theorem dX11_lawfuls_30 : decode cX11_lawfuls 30 = .ok (.iload_n 2, 1) := by decide +kernel
theorem dX11_lawfuls_31 : decode cX11_lawfuls 31 = .ok (.aload_n 0, 1) := by decide +kernel
theorem dX11_lawfuls_32 : decode cX11_lawfuls 32 = .ok (.iload_n 1, 1) := by decide +kernel
theorem dX11_lawfuls_33 : decode cX11_lawfuls 33 = .ok (.iload_n 3, 1) := by decide +kernel
theorem dX11_lawfuls_34 : decode cX11_lawfuls 34 = .ok (.invokevirtual 318, 3) := by decide +kernel
theorem dX11_lawfuls_37 : decode cX11_lawfuls 37 = .ok (.ifCond .eq 7, 3) := by decide +kernel
theorem dX11_lawfuls_40 : decode cX11_lawfuls 40 = .ok (.iconst 1, 1) := by decide +kernel
theorem dX11_lawfuls_41 : decode cX11_lawfuls 41 = .ok (.goto 4, 3) := by decide +kernel
theorem dX11_lawfuls_44 : decode cX11_lawfuls 44 = .ok (.iconst 0, 1) := by decide +kernel
theorem dX11_lawfuls_45 : decode cX11_lawfuls 45 = .ok (.iadd, 1) := by decide +kernel
theorem dX11_lawfuls_46 : decode cX11_lawfuls 46 = .ok (.istore_n 2, 1) := by decide +kernel
theorem dX11_lawfuls_47 : decode cX11_lawfuls 47 = .ok (.iinc 3 1, 3) := by decide +kernel
theorem dX11_lawfuls_50 : decode cX11_lawfuls 50 = .ok (.goto (-28), 3) := by decide +kernel
theorem dX11_lawfuls_53 : decode cX11_lawfuls 53 = .ok (.iload_n 2, 1) := by decide +kernel
theorem dX11_lawfuls_54 : decode cX11_lawfuls 54 = .ok (.ireturn, 1) := by decide +kernel
theorem dX11_span_0 : decode cX11_span 0 = .ok (.aload_n 0, 1) := by decide +kernel
theorem dX11_span_1 : decode cX11_span 1 = .ok (.invokevirtual 104, 3) := by decide +kernel
theorem dX11_span_4 : decode cX11_span 4 = .ok (.aload_n 0, 1) := by decide +kernel
theorem dX11_span_5 : decode cX11_span 5 = .ok (.iload_n 1, 1) := by decide +kernel
theorem dX11_span_6 : decode cX11_span 6 = .ok (.invokevirtual 265, 3) := by decide +kernel
theorem dX11_span_9 : decode cX11_span 9 = .ok (.ifCond .eq 11, 3) := by decide +kernel
theorem dX11_span_12 : decode cX11_span 12 = .ok (.aload_n 0, 1) := by decide +kernel
theorem dX11_span_13 : decode cX11_span 13 = .ok (.iload_n 2, 1) := by decide +kernel
theorem dX11_span_14 : decode cX11_span 14 = .ok (.invokevirtual 334, 3) := by decide +kernel
theorem dX11_span_17 : decode cX11_span 17 = .ok (.ifCond .ne 10, 3) := by decide +kernel
theorem dX11_span_20 : decode cX11_span 20 = .ok (.aload_n 0, 1) := by decide +kernel
theorem dX11_span_21 : decode cX11_span 21 = .ok (.iconst 1, 1) := by decide +kernel
theorem dX11_span_22 : decode cX11_span 22 = .ok (.invokevirtual 115, 3) := by decide +kernel
theorem dX11_span_25 : decode cX11_span 25 = .ok (.i2l, 1) := by decide +kernel
theorem dX11_span_26 : decode cX11_span 26 = .ok (.lreturn, 1) := by decide +kernel
theorem dX11_span_27 : decode cX11_span 27 = .ok (.aload_n 0, 1) := by decide +kernel
theorem dX11_span_28 : decode cX11_span 28 = .ok (.iload_n 1, 1) := by decide +kernel
theorem dX11_span_29 : decode cX11_span 29 = .ok (.iload_n 2, 1) := by decide +kernel
theorem dX11_span_30 : decode cX11_span 30 = .ok (.invokevirtual 325, 3) := by decide +kernel
theorem dX11_span_33 : decode cX11_span 33 = .ok (.aload_n 0, 1) := by decide +kernel
theorem dX11_span_34 : decode cX11_span 34 = .ok (.aload_n 0, 1) := by decide +kernel
theorem dX11_span_35 : decode cX11_span 35 = .ok (.getfield 355, 3) := by decide +kernel
theorem dX11_span_38 : decode cX11_span 38 = .ok (.aload_n 0, 1) := by decide +kernel
theorem dX11_span_39 : decode cX11_span 39 = .ok (.getfield 328, 3) := by decide +kernel
theorem dX11_span_42 : decode cX11_span 42 = .ok (.iload_n 3, 1) := by decide +kernel
theorem dX11_span_43 : decode cX11_span 43 = .ok (.invokevirtual 308, 3) := by decide +kernel
theorem dX11_span_46 : decode cX11_span 46 = .ok (.lreturn, 1) := by decide +kernel
theorem dX11_under_0 : decode cX11_under 0 = .ok (.aload_n 0, 1) := by decide +kernel
theorem dX11_under_1 : decode cX11_under 1 = .ok (.invokevirtual 104, 3) := by decide +kernel
theorem dX11_under_4 : decode cX11_under 4 = .ok (.aload_n 0, 1) := by decide +kernel
theorem dX11_under_5 : decode cX11_under 5 = .ok (.iload_n 1, 1) := by decide +kernel
theorem dX11_under_6 : decode cX11_under 6 = .ok (.invokevirtual 265, 3) := by decide +kernel
theorem dX11_under_9 : decode cX11_under 9 = .ok (.ifCond .eq 11, 3) := by decide +kernel
theorem dX11_under_12 : decode cX11_under 12 = .ok (.aload_n 0, 1) := by decide +kernel
theorem dX11_under_13 : decode cX11_under 13 = .ok (.iload_n 2, 1) := by decide +kernel
theorem dX11_under_14 : decode cX11_under 14 = .ok (.invokevirtual 334, 3) := by decide +kernel
theorem dX11_under_17 : decode cX11_under 17 = .ok (.ifCond .ne 9, 3) := by decide +kernel
theorem dX11_under_20 : decode cX11_under 20 = .ok (.aload_n 0, 1) := by decide +kernel
theorem dX11_under_21 : decode cX11_under 21 = .ok (.iconst 1, 1) := by decide +kernel
theorem dX11_under_22 : decode cX11_under 22 = .ok (.invokevirtual 304, 3) := by decide +kernel
theorem dX11_under_25 : decode cX11_under 25 = .ok (.lreturn, 1) := by decide +kernel
theorem dX11_under_26 : decode cX11_under 26 = .ok (.aload_n 0, 1) := by decide +kernel
theorem dX11_under_27 : decode cX11_under 27 = .ok (.iload_n 1, 1) := by decide +kernel
theorem dX11_under_28 : decode cX11_under 28 = .ok (.iload_n 2, 1) := by decide +kernel
theorem dX11_under_29 : decode cX11_under 29 = .ok (.invokevirtual 325, 3) := by decide +kernel
theorem dX11_under_32 : decode cX11_under 32 = .ok (.aload_n 0, 1) := by decide +kernel
theorem dX11_under_33 : decode cX11_under 33 = .ok (.getfield 321, 3) := by decide +kernel
theorem dX11_under_36 : decode cX11_under 36 = .ok (.lreturn, 1) := by decide +kernel
theorem dX11_root_0 : decode cX11_root 0 = .ok (.lconst 0, 1) := by decide +kernel
theorem dX11_root_1 : decode cX11_root 1 = .ok (.lstore_n 2, 1) := by decide +kernel
theorem dX11_root_2 : decode cX11_root 2 = .ok (.ldc2_w 369, 3) := by decide +kernel
theorem dX11_root_5 : decode cX11_root 5 = .ok (.lstore 4, 2) := by decide +kernel
theorem dX11_root_7 : decode cX11_root 7 = .ok (.lload 4, 2) := by decide +kernel
theorem dX11_root_9 : decode cX11_root 9 = .ok (.lconst 0, 1) := by decide +kernel
theorem dX11_root_10 : decode cX11_root 10 = .ok (.lcmp, 1) := by decide +kernel
theorem dX11_root_11 : decode cX11_root 11 = .ok (.ifCond .le 31, 3) := by decide +kernel
theorem dX11_root_14 : decode cX11_root 14 = .ok (.lload_n 2, 1) := by decide +kernel
theorem dX11_root_15 : decode cX11_root 15 = .ok (.lload 4, 2) := by decide +kernel
theorem dX11_root_17 : decode cX11_root 17 = .ok (.ladd, 1) := by decide +kernel
theorem dX11_root_18 : decode cX11_root 18 = .ok (.lstore 6, 2) := by decide +kernel
theorem dX11_root_20 : decode cX11_root 20 = .ok (.lload 6, 2) := by decide +kernel
theorem dX11_root_22 : decode cX11_root 22 = .ok (.lload_n 0, 1) := by decide +kernel
theorem dX11_root_23 : decode cX11_root 23 = .ok (.lload 6, 2) := by decide +kernel
theorem dX11_root_25 : decode cX11_root 25 = .ok (.ldiv, 1) := by decide +kernel
theorem dX11_root_26 : decode cX11_root 26 = .ok (.lcmp, 1) := by decide +kernel
theorem dX11_root_27 : decode cX11_root 27 = .ok (.ifCond .gt 6, 3) := by decide +kernel
theorem dX11_root_30 : decode cX11_root 30 = .ok (.lload 6, 2) := by decide +kernel
theorem dX11_root_32 : decode cX11_root 32 = .ok (.lstore_n 2, 1) := by decide +kernel
theorem dX11_root_33 : decode cX11_root 33 = .ok (.lload 4, 2) := by decide +kernel
theorem dX11_root_35 : decode cX11_root 35 = .ok (.iconst 1, 1) := by decide +kernel
theorem dX11_root_36 : decode cX11_root 36 = .ok (.lshr, 1) := by decide +kernel
theorem dX11_root_37 : decode cX11_root 37 = .ok (.lstore 4, 2) := by decide +kernel
theorem dX11_root_39 : decode cX11_root 39 = .ok (.goto (-32), 3) := by decide +kernel
theorem dX11_root_42 : decode cX11_root 42 = .ok (.lload_n 2, 1) := by decide +kernel
theorem dX11_root_43 : decode cX11_root 43 = .ok (.lreturn, 1) := by decide +kernel
theorem dX11_turned_0 : decode cX11_turned 0 = .ok (.iload_n 2, 1) := by decide +kernel
theorem dX11_turned_1 : decode cX11_turned 1 = .ok (.ifCond .ne 7, 3) := by decide +kernel
theorem dX11_turned_4 : decode cX11_turned 4 = .ok (.lload_n 0, 1) := by decide +kernel
theorem dX11_turned_5 : decode cX11_turned 5 = .ok (.goto 5, 3) := by decide +kernel
theorem dX11_turned_8 : decode cX11_turned 8 = .ok (.lload_n 0, 1) := by decide +kernel
theorem dX11_turned_9 : decode cX11_turned 9 = .ok (.lneg, 1) := by decide +kernel
theorem dX11_turned_10 : decode cX11_turned 10 = .ok (.lreturn, 1) := by decide +kernel
theorem dX11_jointU_0 : decode cX11_jointU 0 = .ok (.iload_n 1, 1) := by decide +kernel
theorem dX11_jointU_1 : decode cX11_jointU 1 = .ok (.ifCond .ne 34, 3) := by decide +kernel
theorem dX11_jointU_4 : decode cX11_jointU 4 = .ok (.ldc2_w 344, 3) := by decide +kernel
theorem dX11_jointU_7 : decode cX11_jointU 7 = .ok (.aload_n 0, 1) := by decide +kernel
theorem dX11_jointU_8 : decode cX11_jointU 8 = .ok (.getfield 349, 3) := by decide +kernel
theorem dX11_jointU_11 : decode cX11_jointU 11 = .ok (.lmul, 1) := by decide +kernel
theorem dX11_jointU_12 : decode cX11_jointU 12 = .ok (.aload_n 0, 1) := by decide +kernel
theorem dX11_jointU_13 : decode cX11_jointU 13 = .ok (.getfield 331, 3) := by decide +kernel
theorem dX11_jointU_16 : decode cX11_jointU 16 = .ok (.lmul, 1) := by decide +kernel
theorem dX11_jointU_17 : decode cX11_jointU 17 = .ok (.aload_n 0, 1) := by decide +kernel
theorem dX11_jointU_18 : decode cX11_jointU 18 = .ok (.getfield 355, 3) := by decide +kernel
theorem dX11_jointU_21 : decode cX11_jointU 21 = .ok (.lmul, 1) := by decide +kernel
theorem dX11_jointU_22 : decode cX11_jointU 22 = .ok (.aload_n 0, 1) := by decide +kernel
theorem dX11_jointU_23 : decode cX11_jointU 23 = .ok (.getfield 358, 3) := by decide +kernel
theorem dX11_jointU_26 : decode cX11_jointU 26 = .ok (.aload_n 0, 1) := by decide +kernel
theorem dX11_jointU_27 : decode cX11_jointU 27 = .ok (.getfield 363, 3) := by decide +kernel
theorem dX11_jointU_30 : decode cX11_jointU 30 = .ok (.lmul, 1) := by decide +kernel
theorem dX11_jointU_31 : decode cX11_jointU 31 = .ok (.ladd, 1) := by decide +kernel
theorem dX11_jointU_32 : decode cX11_jointU 32 = .ok (.goto 31, 3) := by decide +kernel
theorem dX11_jointU_35 : decode cX11_jointU 35 = .ok (.ldc2_w 344, 3) := by decide +kernel
theorem dX11_jointU_38 : decode cX11_jointU 38 = .ok (.aload_n 0, 1) := by decide +kernel
theorem dX11_jointU_39 : decode cX11_jointU 39 = .ok (.getfield 349, 3) := by decide +kernel
theorem dX11_jointU_42 : decode cX11_jointU 42 = .ok (.lmul, 1) := by decide +kernel
theorem dX11_jointU_43 : decode cX11_jointU 43 = .ok (.aload_n 0, 1) := by decide +kernel
theorem dX11_jointU_44 : decode cX11_jointU 44 = .ok (.getfield 352, 3) := by decide +kernel
theorem dX11_jointU_47 : decode cX11_jointU 47 = .ok (.lmul, 1) := by decide +kernel
theorem dX11_jointU_48 : decode cX11_jointU 48 = .ok (.aload_n 0, 1) := by decide +kernel
theorem dX11_jointU_49 : decode cX11_jointU 49 = .ok (.getfield 355, 3) := by decide +kernel
theorem dX11_jointU_52 : decode cX11_jointU 52 = .ok (.lmul, 1) := by decide +kernel
theorem dX11_jointU_53 : decode cX11_jointU 53 = .ok (.aload_n 0, 1) := by decide +kernel
theorem dX11_jointU_54 : decode cX11_jointU 54 = .ok (.getfield 358, 3) := by decide +kernel
theorem dX11_jointU_57 : decode cX11_jointU 57 = .ok (.aload_n 0, 1) := by decide +kernel
theorem dX11_jointU_58 : decode cX11_jointU 58 = .ok (.getfield 366, 3) := by decide +kernel
theorem dX11_jointU_61 : decode cX11_jointU 61 = .ok (.lmul, 1) := by decide +kernel
theorem dX11_jointU_62 : decode cX11_jointU 62 = .ok (.ladd, 1) := by decide +kernel
theorem dX11_jointU_63 : decode cX11_jointU 63 = .ok (.lreturn, 1) := by decide +kernel
theorem dX11_jointV_0 : decode cX11_jointV 0 = .ok (.iload_n 1, 1) := by decide +kernel
theorem dX11_jointV_1 : decode cX11_jointV 1 = .ok (.ifCond .ne 11, 3) := by decide +kernel
theorem dX11_jointV_4 : decode cX11_jointV 4 = .ok (.aload_n 0, 1) := by decide +kernel
theorem dX11_jointV_5 : decode cX11_jointV 5 = .ok (.getfield 366, 3) := by decide +kernel
theorem dX11_jointV_8 : decode cX11_jointV 8 = .ok (.lneg, 1) := by decide +kernel
theorem dX11_jointV_9 : decode cX11_jointV 9 = .ok (.goto 7, 3) := by decide +kernel
theorem dX11_jointV_12 : decode cX11_jointV 12 = .ok (.aload_n 0, 1) := by decide +kernel
theorem dX11_jointV_13 : decode cX11_jointV 13 = .ok (.getfield 363, 3) := by decide +kernel
theorem dX11_jointV_16 : decode cX11_jointV 16 = .ok (.iload_n 2, 1) := by decide +kernel
theorem dX11_jointV_17 : decode cX11_jointV 17 = .ok (.invokestatic 377, 3) := by decide +kernel
theorem dX11_jointV_20 : decode cX11_jointV 20 = .ok (.lreturn, 1) := by decide +kernel
theorem dX11_joint_0 : decode cX11_joint 0 = .ok (.aload_n 0, 1) := by decide +kernel
theorem dX11_joint_1 : decode cX11_joint 1 = .ok (.invokevirtual 104, 3) := by decide +kernel
theorem dX11_joint_4 : decode cX11_joint 4 = .ok (.aload_n 0, 1) := by decide +kernel
theorem dX11_joint_5 : decode cX11_joint 5 = .ok (.iload_n 1, 1) := by decide +kernel
theorem dX11_joint_6 : decode cX11_joint 6 = .ok (.iload_n 2, 1) := by decide +kernel
theorem dX11_joint_7 : decode cX11_joint 7 = .ok (.iload_n 3, 1) := by decide +kernel
theorem dX11_joint_8 : decode cX11_joint 8 = .ok (.invokevirtual 381, 3) := by decide +kernel
theorem dX11_joint_11 : decode cX11_joint 11 = .ok (.ifCond .eq 13, 3) := by decide +kernel
theorem dX11_joint_14 : decode cX11_joint 14 = .ok (.iload 4, 2) := by decide +kernel
theorem dX11_joint_16 : decode cX11_joint 16 = .ok (.iconst 0, 1) := by decide +kernel
theorem dX11_joint_17 : decode cX11_joint 17 = .ok (.iconst 1, 1) := by decide +kernel
theorem dX11_joint_18 : decode cX11_joint 18 = .ok (.invokestatic 107, 3) := by decide +kernel
theorem dX11_joint_21 : decode cX11_joint 21 = .ok (.ifCond .ne 9, 3) := by decide +kernel
theorem dX11_joint_24 : decode cX11_joint 24 = .ok (.aload_n 0, 1) := by decide +kernel
theorem dX11_joint_25 : decode cX11_joint 25 = .ok (.iconst 1, 1) := by decide +kernel
theorem dX11_joint_26 : decode cX11_joint 26 = .ok (.invokevirtual 111, 3) := by decide +kernel
theorem dX11_joint_29 : decode cX11_joint 29 = .ok (.ireturn, 1) := by decide +kernel
theorem dX11_joint_30 : decode cX11_joint 30 = .ok (.aload_n 0, 1) := by decide +kernel
theorem dX11_joint_31 : decode cX11_joint 31 = .ok (.iload_n 1, 1) := by decide +kernel
theorem dX11_joint_32 : decode cX11_joint 32 = .ok (.iload_n 2, 1) := by decide +kernel
theorem dX11_joint_33 : decode cX11_joint 33 = .ok (.invokevirtual 318, 3) := by decide +kernel
theorem dX11_joint_36 : decode cX11_joint 36 = .ok (.ifCond .ne 9, 3) := by decide +kernel
theorem dX11_joint_39 : decode cX11_joint 39 = .ok (.aload_n 0, 1) := by decide +kernel
theorem dX11_joint_40 : decode cX11_joint 40 = .ok (.iconst 5, 1) := by decide +kernel
theorem dX11_joint_41 : decode cX11_joint 41 = .ok (.invokevirtual 111, 3) := by decide +kernel
theorem dX11_joint_44 : decode cX11_joint 44 = .ok (.ireturn, 1) := by decide +kernel
theorem dX11_joint_45 : decode cX11_joint 45 = .ok (.aload_n 0, 1) := by decide +kernel
theorem dX11_joint_46 : decode cX11_joint 46 = .ok (.ldc2_w 384, 3) := by decide +kernel
theorem dX11_joint_49 : decode cX11_joint 49 = .ok (.aload_n 0, 1) := by decide +kernel
theorem dX11_joint_50 : decode cX11_joint 50 = .ok (.iload 4, 2) := by decide +kernel
theorem dX11_joint_52 : decode cX11_joint 52 = .ok (.invokevirtual 386, 3) := by decide +kernel
theorem dX11_joint_55 : decode cX11_joint 55 = .ok (.lmul, 1) := by decide +kernel
theorem dX11_joint_56 : decode cX11_joint 56 = .ok (.ldc2_w 384, 3) := by decide +kernel
theorem dX11_joint_59 : decode cX11_joint 59 = .ok (.aload_n 0, 1) := by decide +kernel
theorem dX11_joint_60 : decode cX11_joint 60 = .ok (.iload 4, 2) := by decide +kernel
theorem dX11_joint_62 : decode cX11_joint 62 = .ok (.iload_n 3, 1) := by decide +kernel
theorem dX11_joint_63 : decode cX11_joint 63 = .ok (.invokevirtual 389, 3) := by decide +kernel
theorem dX11_joint_66 : decode cX11_joint 66 = .ok (.lmul, 1) := by decide +kernel
theorem dX11_joint_67 : decode cX11_joint 67 = .ok (.ldc2_w 344, 3) := by decide +kernel
theorem dX11_joint_70 : decode cX11_joint 70 = .ok (.aload_n 0, 1) := by decide +kernel
theorem dX11_joint_71 : decode cX11_joint 71 = .ok (.getfield 355, 3) := by decide +kernel
theorem dX11_joint_74 : decode cX11_joint 74 = .ok (.lmul, 1) := by decide +kernel
theorem dX11_joint_75 : decode cX11_joint 75 = .ok (.aload_n 0, 1) := by decide +kernel
theorem dX11_joint_76 : decode cX11_joint 76 = .ok (.getfield 328, 3) := by decide +kernel
theorem dX11_joint_79 : decode cX11_joint 79 = .ok (.lmul, 1) := by decide +kernel
theorem dX11_joint_80 : decode cX11_joint 80 = .ok (.invokevirtual 393, 3) := by decide +kernel
theorem dX11_joint_83 : decode cX11_joint 83 = .ok (.l2i, 1) := by decide +kernel
theorem dX11_joint_84 : decode cX11_joint 84 = .ok (.ireturn, 1) := by decide +kernel
theorem dX11_rate_0 : decode cX11_rate 0 = .ok (.aload_n 0, 1) := by decide +kernel
theorem dX11_rate_1 : decode cX11_rate 1 = .ok (.invokevirtual 104, 3) := by decide +kernel
theorem dX11_rate_4 : decode cX11_rate 4 = .ok (.aload_n 0, 1) := by decide +kernel
theorem dX11_rate_5 : decode cX11_rate 5 = .ok (.iload_n 1, 1) := by decide +kernel
theorem dX11_rate_6 : decode cX11_rate 6 = .ok (.iload_n 2, 1) := by decide +kernel
theorem dX11_rate_7 : decode cX11_rate 7 = .ok (.iload_n 3, 1) := by decide +kernel
theorem dX11_rate_8 : decode cX11_rate 8 = .ok (.invokevirtual 381, 3) := by decide +kernel
theorem dX11_rate_11 : decode cX11_rate 11 = .ok (.ifCond .eq 13, 3) := by decide +kernel
theorem dX11_rate_14 : decode cX11_rate 14 = .ok (.iload 4, 2) := by decide +kernel
theorem dX11_rate_16 : decode cX11_rate 16 = .ok (.iconst 0, 1) := by decide +kernel
theorem dX11_rate_17 : decode cX11_rate 17 = .ok (.iconst 2, 1) := by decide +kernel
theorem dX11_rate_18 : decode cX11_rate 18 = .ok (.invokestatic 107, 3) := by decide +kernel
theorem dX11_rate_21 : decode cX11_rate 21 = .ok (.ifCond .ne 9, 3) := by decide +kernel
theorem dX11_rate_24 : decode cX11_rate 24 = .ok (.aload_n 0, 1) := by decide +kernel
theorem dX11_rate_25 : decode cX11_rate 25 = .ok (.iconst 1, 1) := by decide +kernel
theorem dX11_rate_26 : decode cX11_rate 26 = .ok (.invokevirtual 304, 3) := by decide +kernel
theorem dX11_rate_29 : decode cX11_rate 29 = .ok (.lreturn, 1) := by decide +kernel
theorem dX11_rate_30 : decode cX11_rate 30 = .ok (.aload_n 0, 1) := by decide +kernel
theorem dX11_rate_31 : decode cX11_rate 31 = .ok (.iload_n 1, 1) := by decide +kernel
theorem dX11_rate_32 : decode cX11_rate 32 = .ok (.iload_n 2, 1) := by decide +kernel
theorem dX11_rate_33 : decode cX11_rate 33 = .ok (.invokevirtual 318, 3) := by decide +kernel
theorem dX11_rate_36 : decode cX11_rate 36 = .ok (.ifCond .eq 12, 3) := by decide +kernel
theorem dX11_rate_39 : decode cX11_rate 39 = .ok (.aload_n 0, 1) := by decide +kernel
theorem dX11_rate_40 : decode cX11_rate 40 = .ok (.getfield 321, 3) := by decide +kernel
theorem dX11_rate_43 : decode cX11_rate 43 = .ok (.lconst 0, 1) := by decide +kernel
theorem dX11_rate_44 : decode cX11_rate 44 = .ok (.lcmp, 1) := by decide +kernel
theorem dX11_rate_45 : decode cX11_rate 45 = .ok (.ifCond .ne 9, 3) := by decide +kernel
theorem dX11_rate_48 : decode cX11_rate 48 = .ok (.aload_n 0, 1) := by decide +kernel
theorem dX11_rate_49 : decode cX11_rate 49 = .ok (.iconst 5, 1) := by decide +kernel
theorem dX11_rate_50 : decode cX11_rate 50 = .ok (.invokevirtual 304, 3) := by decide +kernel
theorem dX11_rate_53 : decode cX11_rate 53 = .ok (.lreturn, 1) := by decide +kernel
theorem dX11_rate_54 : decode cX11_rate 54 = .ok (.iload_n 3, 1) := by decide +kernel
theorem dX11_rate_55 : decode cX11_rate 55 = .ok (.ifCond .ne 14, 3) := by decide +kernel
theorem dX11_rate_58 : decode cX11_rate 58 = .ok (.ldc2_w 397, 3) := by decide +kernel
theorem dX11_rate_61 : decode cX11_rate 61 = .ok (.aload_n 0, 1) := by decide +kernel
theorem dX11_rate_62 : decode cX11_rate 62 = .ok (.getfield 349, 3) := by decide +kernel
theorem dX11_rate_65 : decode cX11_rate 65 = .ok (.lmul, 1) := by decide +kernel
theorem dX11_rate_66 : decode cX11_rate 66 = .ok (.goto 11, 3) := by decide +kernel
theorem dX11_rate_69 : decode cX11_rate 69 = .ok (.ldc2_w 344, 3) := by decide +kernel
theorem dX11_rate_72 : decode cX11_rate 72 = .ok (.aload_n 0, 1) := by decide +kernel
theorem dX11_rate_73 : decode cX11_rate 73 = .ok (.getfield 349, 3) := by decide +kernel
theorem dX11_rate_76 : decode cX11_rate 76 = .ok (.lmul, 1) := by decide +kernel
theorem dX11_rate_77 : decode cX11_rate 77 = .ok (.lstore 5, 2) := by decide +kernel
theorem dX11_rate_79 : decode cX11_rate 79 = .ok (.lload 5, 2) := by decide +kernel
theorem dX11_rate_81 : decode cX11_rate 81 = .ok (.aload_n 0, 1) := by decide +kernel
theorem dX11_rate_82 : decode cX11_rate 82 = .ok (.getfield 331, 3) := by decide +kernel
theorem dX11_rate_85 : decode cX11_rate 85 = .ok (.aload_n 0, 1) := by decide +kernel
theorem dX11_rate_86 : decode cX11_rate 86 = .ok (.iconst 1, 1) := by decide +kernel
theorem dX11_rate_87 : decode cX11_rate 87 = .ok (.iload_n 3, 1) := by decide +kernel
theorem dX11_rate_88 : decode cX11_rate 88 = .ok (.invokevirtual 389, 3) := by decide +kernel
theorem dX11_rate_91 : decode cX11_rate 91 = .ok (.lmul, 1) := by decide +kernel
theorem dX11_rate_92 : decode cX11_rate 92 = .ok (.aload_n 0, 1) := by decide +kernel
theorem dX11_rate_93 : decode cX11_rate 93 = .ok (.getfield 352, 3) := by decide +kernel
theorem dX11_rate_96 : decode cX11_rate 96 = .ok (.aload_n 0, 1) := by decide +kernel
theorem dX11_rate_97 : decode cX11_rate 97 = .ok (.iconst 0, 1) := by decide +kernel
theorem dX11_rate_98 : decode cX11_rate 98 = .ok (.iload_n 3, 1) := by decide +kernel
theorem dX11_rate_99 : decode cX11_rate 99 = .ok (.invokevirtual 389, 3) := by decide +kernel
theorem dX11_rate_102 : decode cX11_rate 102 = .ok (.lmul, 1) := by decide +kernel
theorem dX11_rate_103 : decode cX11_rate 103 = .ok (.lsub, 1) := by decide +kernel
theorem dX11_rate_104 : decode cX11_rate 104 = .ok (.lmul, 1) := by decide +kernel
theorem dX11_rate_105 : decode cX11_rate 105 = .ok (.aload_n 0, 1) := by decide +kernel
theorem dX11_rate_106 : decode cX11_rate 106 = .ok (.getfield 321, 3) := by decide +kernel
theorem dX11_rate_109 : decode cX11_rate 109 = .ok (.lmul, 1) := by decide +kernel
theorem dX11_rate_110 : decode cX11_rate 110 = .ok (.lstore 7, 2) := by decide +kernel
theorem dX11_rate_112 : decode cX11_rate 112 = .ok (.lload 5, 2) := by decide +kernel
theorem dX11_rate_114 : decode cX11_rate 114 = .ok (.aload_n 0, 1) := by decide +kernel
theorem dX11_rate_115 : decode cX11_rate 115 = .ok (.getfield 331, 3) := by decide +kernel
theorem dX11_rate_118 : decode cX11_rate 118 = .ok (.aload_n 0, 1) := by decide +kernel
theorem dX11_rate_119 : decode cX11_rate 119 = .ok (.iconst 1, 1) := by decide +kernel
theorem dX11_rate_120 : decode cX11_rate 120 = .ok (.invokevirtual 386, 3) := by decide +kernel
theorem dX11_rate_123 : decode cX11_rate 123 = .ok (.lmul, 1) := by decide +kernel
theorem dX11_rate_124 : decode cX11_rate 124 = .ok (.aload_n 0, 1) := by decide +kernel
theorem dX11_rate_125 : decode cX11_rate 125 = .ok (.getfield 352, 3) := by decide +kernel
theorem dX11_rate_128 : decode cX11_rate 128 = .ok (.aload_n 0, 1) := by decide +kernel
theorem dX11_rate_129 : decode cX11_rate 129 = .ok (.iconst 0, 1) := by decide +kernel
theorem dX11_rate_130 : decode cX11_rate 130 = .ok (.invokevirtual 386, 3) := by decide +kernel
theorem dX11_rate_133 : decode cX11_rate 133 = .ok (.lmul, 1) := by decide +kernel
theorem dX11_rate_134 : decode cX11_rate 134 = .ok (.lsub, 1) := by decide +kernel
theorem dX11_rate_135 : decode cX11_rate 135 = .ok (.lmul, 1) := by decide +kernel
theorem dX11_rate_136 : decode cX11_rate 136 = .ok (.lstore 9, 2) := by decide +kernel
theorem dX11_rate_138 : decode cX11_rate 138 = .ok (.ldc2_w 344, 3) := by decide +kernel
theorem dX11_rate_141 : decode cX11_rate 141 = .ok (.aload_n 0, 1) := by decide +kernel
theorem dX11_rate_142 : decode cX11_rate 142 = .ok (.getfield 355, 3) := by decide +kernel
theorem dX11_rate_145 : decode cX11_rate 145 = .ok (.lmul, 1) := by decide +kernel
theorem dX11_rate_146 : decode cX11_rate 146 = .ok (.aload_n 0, 1) := by decide +kernel
theorem dX11_rate_147 : decode cX11_rate 147 = .ok (.getfield 328, 3) := by decide +kernel
theorem dX11_rate_150 : decode cX11_rate 150 = .ok (.lmul, 1) := by decide +kernel
theorem dX11_rate_151 : decode cX11_rate 151 = .ok (.aload_n 0, 1) := by decide +kernel
theorem dX11_rate_152 : decode cX11_rate 152 = .ok (.getfield 321, 3) := by decide +kernel
theorem dX11_rate_155 : decode cX11_rate 155 = .ok (.lmul, 1) := by decide +kernel
theorem dX11_rate_156 : decode cX11_rate 156 = .ok (.lstore 11, 2) := by decide +kernel
theorem dX11_rate_158 : decode cX11_rate 158 = .ok (.lload 7, 2) := by decide +kernel
theorem dX11_rate_160 : decode cX11_rate 160 = .ok (.lload 9, 2) := by decide +kernel
theorem dX11_rate_162 : decode cX11_rate 162 = .ok (.invokestatic 22, 3) := by decide +kernel
theorem dX11_rate_165 : decode cX11_rate 165 = .ok (.lload 11, 2) := by decide +kernel
theorem dX11_rate_167 : decode cX11_rate 167 = .ok (.invokestatic 22, 3) := by decide +kernel
theorem dX11_rate_170 : decode cX11_rate 170 = .ok (.lstore 13, 2) := by decide +kernel
theorem dX11_rate_172 : decode cX11_rate 172 = .ok (.iload 4, 2) := by decide +kernel
theorem dX11_rate_174 : decode cX11_rate 174 = .ok (.ifCond .ne 8, 3) := by decide +kernel
theorem dX11_rate_177 : decode cX11_rate 177 = .ok (.lload 7, 2) := by decide +kernel
theorem dX11_rate_179 : decode cX11_rate 179 = .ok (.goto 16, 3) := by decide +kernel
theorem dX11_rate_182 : decode cX11_rate 182 = .ok (.iload 4, 2) := by decide +kernel
theorem dX11_rate_184 : decode cX11_rate 184 = .ok (.iconst 1, 1) := by decide +kernel
theorem dX11_rate_185 : decode cX11_rate 185 = .ok (.if_icmp .ne 8, 3) := by decide +kernel
theorem dX11_rate_188 : decode cX11_rate 188 = .ok (.lload 9, 2) := by decide +kernel
theorem dX11_rate_190 : decode cX11_rate 190 = .ok (.goto 5, 3) := by decide +kernel
theorem dX11_rate_193 : decode cX11_rate 193 = .ok (.lload 11, 2) := by decide +kernel
theorem dX11_rate_195 : decode cX11_rate 195 = .ok (.lload 13, 2) := by decide +kernel
theorem dX11_rate_197 : decode cX11_rate 197 = .ok (.ldiv, 1) := by decide +kernel
theorem dX11_rate_198 : decode cX11_rate 198 = .ok (.lreturn, 1) := by decide +kernel
theorem dX11_tracer_0 : decode cX11_tracer 0 = .ok (.aload_n 0, 1) := by decide +kernel
theorem dX11_tracer_1 : decode cX11_tracer 1 = .ok (.invokevirtual 104, 3) := by decide +kernel
theorem dX11_tracer_4 : decode cX11_tracer 4 = .ok (.aload_n 0, 1) := by decide +kernel
theorem dX11_tracer_5 : decode cX11_tracer 5 = .ok (.iload_n 1, 1) := by decide +kernel
theorem dX11_tracer_6 : decode cX11_tracer 6 = .ok (.invokevirtual 402, 3) := by decide +kernel
theorem dX11_tracer_9 : decode cX11_tracer 9 = .ok (.ifCond .eq 25, 3) := by decide +kernel
theorem dX11_tracer_12 : decode cX11_tracer 12 = .ok (.iload_n 2, 1) := by decide +kernel
theorem dX11_tracer_13 : decode cX11_tracer 13 = .ok (.iconst 0, 1) := by decide +kernel
theorem dX11_tracer_14 : decode cX11_tracer 14 = .ok (.iconst 1, 1) := by decide +kernel
theorem dX11_tracer_15 : decode cX11_tracer 15 = .ok (.invokestatic 107, 3) := by decide +kernel
theorem dX11_tracer_18 : decode cX11_tracer 18 = .ok (.ifCond .eq 16, 3) := by decide +kernel
theorem dX11_tracer_21 : decode cX11_tracer 21 = .ok (.aload_n 0, 1) := by decide +kernel
theorem dX11_tracer_22 : decode cX11_tracer 22 = .ok (.getfield 45, 3) := by decide +kernel
theorem dX11_tracer_25 : decode cX11_tracer 25 = .ok (.iconst 2, 1) := by decide +kernel
theorem dX11_tracer_26 : decode cX11_tracer 26 = .ok (.iload_n 1, 1) := by decide +kernel
theorem dX11_tracer_27 : decode cX11_tracer 27 = .ok (.imul, 1) := by decide +kernel
theorem dX11_tracer_28 : decode cX11_tracer 28 = .ok (.iload_n 2, 1) := by decide +kernel
theorem dX11_tracer_29 : decode cX11_tracer 29 = .ok (.iadd, 1) := by decide +kernel
theorem dX11_tracer_30 : decode cX11_tracer 30 = .ok (.iaload, 1) := by decide +kernel
theorem dX11_tracer_31 : decode cX11_tracer 31 = .ok (.goto 8, 3) := by decide +kernel
theorem dX11_tracer_34 : decode cX11_tracer 34 = .ok (.aload_n 0, 1) := by decide +kernel
theorem dX11_tracer_35 : decode cX11_tracer 35 = .ok (.iconst 1, 1) := by decide +kernel
theorem dX11_tracer_36 : decode cX11_tracer 36 = .ok (.invokevirtual 111, 3) := by decide +kernel
theorem dX11_tracer_39 : decode cX11_tracer 39 = .ok (.ireturn, 1) := by decide +kernel
theorem dX11_point_0 : decode cX11_point 0 = .ok (.aload_n 0, 1) := by decide +kernel
theorem dX11_point_1 : decode cX11_point 1 = .ok (.invokevirtual 104, 3) := by decide +kernel
theorem dX11_point_4 : decode cX11_point 4 = .ok (.aload_n 0, 1) := by decide +kernel
theorem dX11_point_5 : decode cX11_point 5 = .ok (.iload_n 1, 1) := by decide +kernel
theorem dX11_point_6 : decode cX11_point 6 = .ok (.invokevirtual 405, 3) := by decide +kernel
theorem dX11_point_9 : decode cX11_point 9 = .ok (.ifCond .eq 25, 3) := by decide +kernel
theorem dX11_point_12 : decode cX11_point 12 = .ok (.iload_n 2, 1) := by decide +kernel
theorem dX11_point_13 : decode cX11_point 13 = .ok (.iconst 0, 1) := by decide +kernel
theorem dX11_point_14 : decode cX11_point 14 = .ok (.iconst 1, 1) := by decide +kernel
theorem dX11_point_15 : decode cX11_point 15 = .ok (.invokestatic 107, 3) := by decide +kernel
theorem dX11_point_18 : decode cX11_point 18 = .ok (.ifCond .eq 16, 3) := by decide +kernel
theorem dX11_point_21 : decode cX11_point 21 = .ok (.aload_n 0, 1) := by decide +kernel
theorem dX11_point_22 : decode cX11_point 22 = .ok (.getfield 48, 3) := by decide +kernel
theorem dX11_point_25 : decode cX11_point 25 = .ok (.iconst 2, 1) := by decide +kernel
theorem dX11_point_26 : decode cX11_point 26 = .ok (.iload_n 1, 1) := by decide +kernel
theorem dX11_point_27 : decode cX11_point 27 = .ok (.imul, 1) := by decide +kernel
theorem dX11_point_28 : decode cX11_point 28 = .ok (.iload_n 2, 1) := by decide +kernel
theorem dX11_point_29 : decode cX11_point 29 = .ok (.iadd, 1) := by decide +kernel
theorem dX11_point_30 : decode cX11_point 30 = .ok (.iaload, 1) := by decide +kernel
theorem dX11_point_31 : decode cX11_point 31 = .ok (.goto 8, 3) := by decide +kernel
theorem dX11_point_34 : decode cX11_point 34 = .ok (.aload_n 0, 1) := by decide +kernel
theorem dX11_point_35 : decode cX11_point 35 = .ok (.iconst 1, 1) := by decide +kernel
theorem dX11_point_36 : decode cX11_point 36 = .ok (.invokevirtual 111, 3) := by decide +kernel
theorem dX11_point_39 : decode cX11_point 39 = .ok (.ireturn, 1) := by decide +kernel
theorem dX11_tracedU_0 : decode cX11_tracedU 0 = .ok (.aload_n 0, 1) := by decide +kernel
theorem dX11_tracedU_1 : decode cX11_tracedU 1 = .ok (.getfield 45, 3) := by decide +kernel
theorem dX11_tracedU_4 : decode cX11_tracedU 4 = .ok (.iconst 2, 1) := by decide +kernel
theorem dX11_tracedU_5 : decode cX11_tracedU 5 = .ok (.iload_n 1, 1) := by decide +kernel
theorem dX11_tracedU_6 : decode cX11_tracedU 6 = .ok (.imul, 1) := by decide +kernel
theorem dX11_tracedU_7 : decode cX11_tracedU 7 = .ok (.iaload, 1) := by decide +kernel
theorem dX11_tracedU_8 : decode cX11_tracedU 8 = .ok (.i2l, 1) := by decide +kernel
theorem dX11_tracedU_9 : decode cX11_tracedU 9 = .ok (.lstore_n 3, 1) := by decide +kernel
theorem dX11_tracedU_10 : decode cX11_tracedU 10 = .ok (.aload_n 0, 1) := by decide +kernel
theorem dX11_tracedU_11 : decode cX11_tracedU 11 = .ok (.getfield 45, 3) := by decide +kernel
theorem dX11_tracedU_14 : decode cX11_tracedU 14 = .ok (.iconst 2, 1) := by decide +kernel
theorem dX11_tracedU_15 : decode cX11_tracedU 15 = .ok (.iload_n 1, 1) := by decide +kernel
theorem dX11_tracedU_16 : decode cX11_tracedU 16 = .ok (.imul, 1) := by decide +kernel
theorem dX11_tracedU_17 : decode cX11_tracedU 17 = .ok (.iconst 1, 1) := by decide +kernel
theorem dX11_tracedU_18 : decode cX11_tracedU 18 = .ok (.iadd, 1) := by decide +kernel
theorem dX11_tracedU_19 : decode cX11_tracedU 19 = .ok (.iaload, 1) := by decide +kernel
theorem dX11_tracedU_20 : decode cX11_tracedU 20 = .ok (.i2l, 1) := by decide +kernel
theorem dX11_tracedU_21 : decode cX11_tracedU 21 = .ok (.lstore 5, 2) := by decide +kernel
theorem dX11_tracedU_23 : decode cX11_tracedU 23 = .ok (.iload_n 2, 1) := by decide +kernel
theorem dX11_tracedU_24 : decode cX11_tracedU 24 = .ok (.ifCond .ne 49, 3) := by decide +kernel
theorem dX11_tracedU_27 : decode cX11_tracedU 27 = .ok (.ldc2_w 408, 3) := by decide +kernel
theorem dX11_tracedU_30 : decode cX11_tracedU 30 = .ok (.aload_n 0, 1) := by decide +kernel
theorem dX11_tracedU_31 : decode cX11_tracedU 31 = .ok (.getfield 349, 3) := by decide +kernel
theorem dX11_tracedU_34 : decode cX11_tracedU 34 = .ok (.lmul, 1) := by decide +kernel
theorem dX11_tracedU_35 : decode cX11_tracedU 35 = .ok (.aload_n 0, 1) := by decide +kernel
theorem dX11_tracedU_36 : decode cX11_tracedU 36 = .ok (.getfield 331, 3) := by decide +kernel
theorem dX11_tracedU_39 : decode cX11_tracedU 39 = .ok (.lmul, 1) := by decide +kernel
theorem dX11_tracedU_40 : decode cX11_tracedU 40 = .ok (.aload_n 0, 1) := by decide +kernel
theorem dX11_tracedU_41 : decode cX11_tracedU 41 = .ok (.getfield 355, 3) := by decide +kernel
theorem dX11_tracedU_44 : decode cX11_tracedU 44 = .ok (.lmul, 1) := by decide +kernel
theorem dX11_tracedU_45 : decode cX11_tracedU 45 = .ok (.lload_n 3, 1) := by decide +kernel
theorem dX11_tracedU_46 : decode cX11_tracedU 46 = .ok (.aload_n 0, 1) := by decide +kernel
theorem dX11_tracedU_47 : decode cX11_tracedU 47 = .ok (.getfield 358, 3) := by decide +kernel
theorem dX11_tracedU_50 : decode cX11_tracedU 50 = .ok (.lmul, 1) := by decide +kernel
theorem dX11_tracedU_51 : decode cX11_tracedU 51 = .ok (.aload_n 0, 1) := by decide +kernel
theorem dX11_tracedU_52 : decode cX11_tracedU 52 = .ok (.getfield 363, 3) := by decide +kernel
theorem dX11_tracedU_55 : decode cX11_tracedU 55 = .ok (.lmul, 1) := by decide +kernel
theorem dX11_tracedU_56 : decode cX11_tracedU 56 = .ok (.ladd, 1) := by decide +kernel
theorem dX11_tracedU_57 : decode cX11_tracedU 57 = .ok (.lload 5, 2) := by decide +kernel
theorem dX11_tracedU_59 : decode cX11_tracedU 59 = .ok (.aload_n 0, 1) := by decide +kernel
theorem dX11_tracedU_60 : decode cX11_tracedU 60 = .ok (.getfield 358, 3) := by decide +kernel
theorem dX11_tracedU_63 : decode cX11_tracedU 63 = .ok (.lmul, 1) := by decide +kernel
theorem dX11_tracedU_64 : decode cX11_tracedU 64 = .ok (.aload_n 0, 1) := by decide +kernel
theorem dX11_tracedU_65 : decode cX11_tracedU 65 = .ok (.getfield 366, 3) := by decide +kernel
theorem dX11_tracedU_68 : decode cX11_tracedU 68 = .ok (.lmul, 1) := by decide +kernel
theorem dX11_tracedU_69 : decode cX11_tracedU 69 = .ok (.lsub, 1) := by decide +kernel
theorem dX11_tracedU_70 : decode cX11_tracedU 70 = .ok (.goto 46, 3) := by decide +kernel
theorem dX11_tracedU_73 : decode cX11_tracedU 73 = .ok (.ldc2_w 408, 3) := by decide +kernel
theorem dX11_tracedU_76 : decode cX11_tracedU 76 = .ok (.aload_n 0, 1) := by decide +kernel
theorem dX11_tracedU_77 : decode cX11_tracedU 77 = .ok (.getfield 349, 3) := by decide +kernel
theorem dX11_tracedU_80 : decode cX11_tracedU 80 = .ok (.lmul, 1) := by decide +kernel
theorem dX11_tracedU_81 : decode cX11_tracedU 81 = .ok (.aload_n 0, 1) := by decide +kernel
theorem dX11_tracedU_82 : decode cX11_tracedU 82 = .ok (.getfield 352, 3) := by decide +kernel
theorem dX11_tracedU_85 : decode cX11_tracedU 85 = .ok (.lmul, 1) := by decide +kernel
theorem dX11_tracedU_86 : decode cX11_tracedU 86 = .ok (.aload_n 0, 1) := by decide +kernel
theorem dX11_tracedU_87 : decode cX11_tracedU 87 = .ok (.getfield 355, 3) := by decide +kernel
theorem dX11_tracedU_90 : decode cX11_tracedU 90 = .ok (.lmul, 1) := by decide +kernel
theorem dX11_tracedU_91 : decode cX11_tracedU 91 = .ok (.lload_n 3, 1) := by decide +kernel
theorem dX11_tracedU_92 : decode cX11_tracedU 92 = .ok (.aload_n 0, 1) := by decide +kernel
theorem dX11_tracedU_93 : decode cX11_tracedU 93 = .ok (.getfield 358, 3) := by decide +kernel
theorem dX11_tracedU_96 : decode cX11_tracedU 96 = .ok (.lmul, 1) := by decide +kernel
theorem dX11_tracedU_97 : decode cX11_tracedU 97 = .ok (.aload_n 0, 1) := by decide +kernel
theorem dX11_tracedU_98 : decode cX11_tracedU 98 = .ok (.getfield 366, 3) := by decide +kernel
theorem dX11_tracedU_101 : decode cX11_tracedU 101 = .ok (.lmul, 1) := by decide +kernel
theorem dX11_tracedU_102 : decode cX11_tracedU 102 = .ok (.ladd, 1) := by decide +kernel
theorem dX11_tracedU_103 : decode cX11_tracedU 103 = .ok (.lload 5, 2) := by decide +kernel
theorem dX11_tracedU_105 : decode cX11_tracedU 105 = .ok (.aload_n 0, 1) := by decide +kernel
theorem dX11_tracedU_106 : decode cX11_tracedU 106 = .ok (.getfield 358, 3) := by decide +kernel
theorem dX11_tracedU_109 : decode cX11_tracedU 109 = .ok (.lmul, 1) := by decide +kernel
theorem dX11_tracedU_110 : decode cX11_tracedU 110 = .ok (.aload_n 0, 1) := by decide +kernel
theorem dX11_tracedU_111 : decode cX11_tracedU 111 = .ok (.getfield 363, 3) := by decide +kernel
theorem dX11_tracedU_114 : decode cX11_tracedU 114 = .ok (.lmul, 1) := by decide +kernel
theorem dX11_tracedU_115 : decode cX11_tracedU 115 = .ok (.ladd, 1) := by decide +kernel
theorem dX11_tracedU_116 : decode cX11_tracedU 116 = .ok (.lreturn, 1) := by decide +kernel
theorem dX11_tracedV_0 : decode cX11_tracedV 0 = .ok (.aload_n 0, 1) := by decide +kernel
theorem dX11_tracedV_1 : decode cX11_tracedV 1 = .ok (.getfield 45, 3) := by decide +kernel
theorem dX11_tracedV_4 : decode cX11_tracedV 4 = .ok (.iconst 2, 1) := by decide +kernel
theorem dX11_tracedV_5 : decode cX11_tracedV 5 = .ok (.iload_n 1, 1) := by decide +kernel
theorem dX11_tracedV_6 : decode cX11_tracedV 6 = .ok (.imul, 1) := by decide +kernel
theorem dX11_tracedV_7 : decode cX11_tracedV 7 = .ok (.iaload, 1) := by decide +kernel
theorem dX11_tracedV_8 : decode cX11_tracedV 8 = .ok (.i2l, 1) := by decide +kernel
theorem dX11_tracedV_9 : decode cX11_tracedV 9 = .ok (.lstore 4, 2) := by decide +kernel
theorem dX11_tracedV_11 : decode cX11_tracedV 11 = .ok (.aload_n 0, 1) := by decide +kernel
theorem dX11_tracedV_12 : decode cX11_tracedV 12 = .ok (.getfield 45, 3) := by decide +kernel
theorem dX11_tracedV_15 : decode cX11_tracedV 15 = .ok (.iconst 2, 1) := by decide +kernel
theorem dX11_tracedV_16 : decode cX11_tracedV 16 = .ok (.iload_n 1, 1) := by decide +kernel
theorem dX11_tracedV_17 : decode cX11_tracedV 17 = .ok (.imul, 1) := by decide +kernel
theorem dX11_tracedV_18 : decode cX11_tracedV 18 = .ok (.iconst 1, 1) := by decide +kernel
theorem dX11_tracedV_19 : decode cX11_tracedV 19 = .ok (.iadd, 1) := by decide +kernel
theorem dX11_tracedV_20 : decode cX11_tracedV 20 = .ok (.iaload, 1) := by decide +kernel
theorem dX11_tracedV_21 : decode cX11_tracedV 21 = .ok (.i2l, 1) := by decide +kernel
theorem dX11_tracedV_22 : decode cX11_tracedV 22 = .ok (.lstore 6, 2) := by decide +kernel
theorem dX11_tracedV_24 : decode cX11_tracedV 24 = .ok (.iload_n 3, 1) := by decide +kernel
theorem dX11_tracedV_25 : decode cX11_tracedV 25 = .ok (.ifCond .ne 22, 3) := by decide +kernel
theorem dX11_tracedV_28 : decode cX11_tracedV 28 = .ok (.lload 4, 2) := by decide +kernel
theorem dX11_tracedV_30 : decode cX11_tracedV 30 = .ok (.lneg, 1) := by decide +kernel
theorem dX11_tracedV_31 : decode cX11_tracedV 31 = .ok (.aload_n 0, 1) := by decide +kernel
theorem dX11_tracedV_32 : decode cX11_tracedV 32 = .ok (.getfield 366, 3) := by decide +kernel
theorem dX11_tracedV_35 : decode cX11_tracedV 35 = .ok (.lmul, 1) := by decide +kernel
theorem dX11_tracedV_36 : decode cX11_tracedV 36 = .ok (.lload 6, 2) := by decide +kernel
theorem dX11_tracedV_38 : decode cX11_tracedV 38 = .ok (.aload_n 0, 1) := by decide +kernel
theorem dX11_tracedV_39 : decode cX11_tracedV 39 = .ok (.getfield 363, 3) := by decide +kernel
theorem dX11_tracedV_42 : decode cX11_tracedV 42 = .ok (.lmul, 1) := by decide +kernel
theorem dX11_tracedV_43 : decode cX11_tracedV 43 = .ok (.lsub, 1) := by decide +kernel
theorem dX11_tracedV_44 : decode cX11_tracedV 44 = .ok (.goto 18, 3) := by decide +kernel
theorem dX11_tracedV_47 : decode cX11_tracedV 47 = .ok (.lload 4, 2) := by decide +kernel
theorem dX11_tracedV_49 : decode cX11_tracedV 49 = .ok (.aload_n 0, 1) := by decide +kernel
theorem dX11_tracedV_50 : decode cX11_tracedV 50 = .ok (.getfield 363, 3) := by decide +kernel
theorem dX11_tracedV_53 : decode cX11_tracedV 53 = .ok (.lmul, 1) := by decide +kernel
theorem dX11_tracedV_54 : decode cX11_tracedV 54 = .ok (.lload 6, 2) := by decide +kernel
theorem dX11_tracedV_56 : decode cX11_tracedV 56 = .ok (.aload_n 0, 1) := by decide +kernel
theorem dX11_tracedV_57 : decode cX11_tracedV 57 = .ok (.getfield 366, 3) := by decide +kernel
theorem dX11_tracedV_60 : decode cX11_tracedV 60 = .ok (.lmul, 1) := by decide +kernel
theorem dX11_tracedV_61 : decode cX11_tracedV 61 = .ok (.lsub, 1) := by decide +kernel
theorem dX11_tracedV_62 : decode cX11_tracedV 62 = .ok (.iload_n 2, 1) := by decide +kernel
theorem dX11_tracedV_63 : decode cX11_tracedV 63 = .ok (.invokestatic 377, 3) := by decide +kernel
theorem dX11_tracedV_66 : decode cX11_tracedV 66 = .ok (.lreturn, 1) := by decide +kernel
theorem dX11_tracedAt_0 : decode cX11_tracedAt 0 = .ok (.aload_n 0, 1) := by decide +kernel
theorem dX11_tracedAt_1 : decode cX11_tracedAt 1 = .ok (.aload_n 0, 1) := by decide +kernel
theorem dX11_tracedAt_2 : decode cX11_tracedAt 2 = .ok (.iload_n 1, 1) := by decide +kernel
theorem dX11_tracedAt_3 : decode cX11_tracedAt 3 = .ok (.iload_n 3, 1) := by decide +kernel
theorem dX11_tracedAt_4 : decode cX11_tracedAt 4 = .ok (.invokevirtual 410, 3) := by decide +kernel
theorem dX11_tracedAt_7 : decode cX11_tracedAt 7 = .ok (.aload_n 0, 1) := by decide +kernel
theorem dX11_tracedAt_8 : decode cX11_tracedAt 8 = .ok (.iload_n 1, 1) := by decide +kernel
theorem dX11_tracedAt_9 : decode cX11_tracedAt 9 = .ok (.iload_n 2, 1) := by decide +kernel
theorem dX11_tracedAt_10 : decode cX11_tracedAt 10 = .ok (.iload_n 3, 1) := by decide +kernel
theorem dX11_tracedAt_11 : decode cX11_tracedAt 11 = .ok (.invokevirtual 413, 3) := by decide +kernel
theorem dX11_tracedAt_14 : decode cX11_tracedAt 14 = .ok (.ldc2_w 344, 3) := by decide +kernel
theorem dX11_tracedAt_17 : decode cX11_tracedAt 17 = .ok (.aload_n 0, 1) := by decide +kernel
theorem dX11_tracedAt_18 : decode cX11_tracedAt 18 = .ok (.getfield 355, 3) := by decide +kernel
theorem dX11_tracedAt_21 : decode cX11_tracedAt 21 = .ok (.lmul, 1) := by decide +kernel
theorem dX11_tracedAt_22 : decode cX11_tracedAt 22 = .ok (.aload_n 0, 1) := by decide +kernel
theorem dX11_tracedAt_23 : decode cX11_tracedAt 23 = .ok (.getfield 328, 3) := by decide +kernel
theorem dX11_tracedAt_26 : decode cX11_tracedAt 26 = .ok (.lmul, 1) := by decide +kernel
theorem dX11_tracedAt_27 : decode cX11_tracedAt 27 = .ok (.invokevirtual 393, 3) := by decide +kernel
theorem dX11_tracedAt_30 : decode cX11_tracedAt 30 = .ok (.l2i, 1) := by decide +kernel
theorem dX11_tracedAt_31 : decode cX11_tracedAt 31 = .ok (.ireturn, 1) := by decide +kernel
theorem dX11_traced_0 : decode cX11_traced 0 = .ok (.aload_n 0, 1) := by decide +kernel
theorem dX11_traced_1 : decode cX11_traced 1 = .ok (.invokevirtual 104, 3) := by decide +kernel
theorem dX11_traced_4 : decode cX11_traced 4 = .ok (.aload_n 0, 1) := by decide +kernel
theorem dX11_traced_5 : decode cX11_traced 5 = .ok (.iload_n 1, 1) := by decide +kernel
theorem dX11_traced_6 : decode cX11_traced 6 = .ok (.iload_n 2, 1) := by decide +kernel
theorem dX11_traced_7 : decode cX11_traced 7 = .ok (.iload 4, 2) := by decide +kernel
theorem dX11_traced_9 : decode cX11_traced 9 = .ok (.invokevirtual 417, 3) := by decide +kernel
theorem dX11_traced_12 : decode cX11_traced 12 = .ok (.ifCond .eq 21, 3) := by decide +kernel
theorem dX11_traced_15 : decode cX11_traced 15 = .ok (.aload_n 0, 1) := by decide +kernel
theorem dX11_traced_16 : decode cX11_traced 16 = .ok (.iload_n 3, 1) := by decide +kernel
theorem dX11_traced_17 : decode cX11_traced 17 = .ok (.invokevirtual 334, 3) := by decide +kernel
theorem dX11_traced_20 : decode cX11_traced 20 = .ok (.ifCond .eq 13, 3) := by decide +kernel
theorem dX11_traced_23 : decode cX11_traced 23 = .ok (.iload 5, 2) := by decide +kernel
theorem dX11_traced_25 : decode cX11_traced 25 = .ok (.iconst 0, 1) := by decide +kernel
theorem dX11_traced_26 : decode cX11_traced 26 = .ok (.iconst 1, 1) := by decide +kernel
theorem dX11_traced_27 : decode cX11_traced 27 = .ok (.invokestatic 107, 3) := by decide +kernel
theorem dX11_traced_30 : decode cX11_traced 30 = .ok (.ifCond .ne 9, 3) := by decide +kernel
theorem dX11_traced_33 : decode cX11_traced 33 = .ok (.aload_n 0, 1) := by decide +kernel
theorem dX11_traced_34 : decode cX11_traced 34 = .ok (.iconst 1, 1) := by decide +kernel
theorem dX11_traced_35 : decode cX11_traced 35 = .ok (.invokevirtual 111, 3) := by decide +kernel
theorem dX11_traced_38 : decode cX11_traced 38 = .ok (.ireturn, 1) := by decide +kernel
theorem dX11_traced_39 : decode cX11_traced 39 = .ok (.aload_n 0, 1) := by decide +kernel
theorem dX11_traced_40 : decode cX11_traced 40 = .ok (.iload_n 1, 1) := by decide +kernel
theorem dX11_traced_41 : decode cX11_traced 41 = .ok (.iload_n 3, 1) := by decide +kernel
theorem dX11_traced_42 : decode cX11_traced 42 = .ok (.invokevirtual 318, 3) := by decide +kernel
theorem dX11_traced_45 : decode cX11_traced 45 = .ok (.ifCond .eq 15, 3) := by decide +kernel
theorem dX11_traced_48 : decode cX11_traced 48 = .ok (.aload_n 0, 1) := by decide +kernel
theorem dX11_traced_49 : decode cX11_traced 49 = .ok (.iload_n 2, 1) := by decide +kernel
theorem dX11_traced_50 : decode cX11_traced 50 = .ok (.iload 4, 2) := by decide +kernel
theorem dX11_traced_52 : decode cX11_traced 52 = .ok (.iload 5, 2) := by decide +kernel
theorem dX11_traced_54 : decode cX11_traced 54 = .ok (.invokevirtual 420, 3) := by decide +kernel
theorem dX11_traced_57 : decode cX11_traced 57 = .ok (.goto 8, 3) := by decide +kernel
theorem dX11_traced_60 : decode cX11_traced 60 = .ok (.aload_n 0, 1) := by decide +kernel
theorem dX11_traced_61 : decode cX11_traced 61 = .ok (.iconst 5, 1) := by decide +kernel
theorem dX11_traced_62 : decode cX11_traced 62 = .ok (.invokevirtual 111, 3) := by decide +kernel
theorem dX11_traced_65 : decode cX11_traced 65 = .ok (.ireturn, 1) := by decide +kernel
theorem dX11_traces_0 : decode cX11_traces 0 = .ok (.aload_n 0, 1) := by decide +kernel
theorem dX11_traces_1 : decode cX11_traces 1 = .ok (.iconst 0, 1) := by decide +kernel
theorem dX11_traces_2 : decode cX11_traces 2 = .ok (.putfield 424, 3) := by decide +kernel
theorem dX11_traces_5 : decode cX11_traces 5 = .ok (.iconst 0, 1) := by decide +kernel
theorem dX11_traces_6 : decode cX11_traces 6 = .ok (.istore 4, 2) := by decide +kernel
theorem dX11_traces_8 : decode cX11_traces 8 = .ok (.iload 4, 2) := by decide +kernel
theorem dX11_traces_10 : decode cX11_traces 10 = .ok (.aload_n 0, 1) := by decide +kernel
theorem dX11_traces_11 : decode cX11_traces 11 = .ok (.getfield 101, 3) := by decide +kernel
theorem dX11_traces_14 : decode cX11_traces 14 = .ok (.if_icmp .ge 72, 3) := by decide +kernel
theorem dX11_traces_17 : decode cX11_traces 17 = .ok (.aload_n 0, 1) := by decide +kernel
theorem dX11_traces_18 : decode cX11_traces 18 = .ok (.iload_n 1, 1) := by decide +kernel
theorem dX11_traces_19 : decode cX11_traces 19 = .ok (.iload 4, 2) := by decide +kernel
theorem dX11_traces_21 : decode cX11_traces 21 = .ok (.invokevirtual 318, 3) := by decide +kernel
theorem dX11_traces_24 : decode cX11_traces 24 = .ok (.ifCond .eq 56, 3) := by decide +kernel
theorem dX11_traces_27 : decode cX11_traces 27 = .ok (.aload_n 0, 1) := by decide +kernel
theorem dX11_traces_28 : decode cX11_traces 28 = .ok (.getfield 66, 3) := by decide +kernel
theorem dX11_traces_31 : decode cX11_traces 31 = .ok (.aload_n 0, 1) := by decide +kernel
theorem dX11_traces_32 : decode cX11_traces 32 = .ok (.getfield 424, 3) := by decide +kernel
theorem dX11_traces_35 : decode cX11_traces 35 = .ok (.aload_n 0, 1) := by decide +kernel
theorem dX11_traces_36 : decode cX11_traces 36 = .ok (.iload_n 2, 1) := by decide +kernel
theorem dX11_traces_37 : decode cX11_traces 37 = .ok (.iload_n 3, 1) := by decide +kernel
theorem dX11_traces_38 : decode cX11_traces 38 = .ok (.iconst 0, 1) := by decide +kernel
theorem dX11_traces_39 : decode cX11_traces 39 = .ok (.invokevirtual 420, 3) := by decide +kernel
theorem dX11_traces_42 : decode cX11_traces 42 = .ok (.iastore, 1) := by decide +kernel
theorem dX11_traces_43 : decode cX11_traces 43 = .ok (.aload_n 0, 1) := by decide +kernel
theorem dX11_traces_44 : decode cX11_traces 44 = .ok (.getfield 69, 3) := by decide +kernel
theorem dX11_traces_47 : decode cX11_traces 47 = .ok (.aload_n 0, 1) := by decide +kernel
theorem dX11_traces_48 : decode cX11_traces 48 = .ok (.getfield 424, 3) := by decide +kernel
theorem dX11_traces_51 : decode cX11_traces 51 = .ok (.aload_n 0, 1) := by decide +kernel
theorem dX11_traces_52 : decode cX11_traces 52 = .ok (.iload_n 2, 1) := by decide +kernel
theorem dX11_traces_53 : decode cX11_traces 53 = .ok (.iload_n 3, 1) := by decide +kernel
theorem dX11_traces_54 : decode cX11_traces 54 = .ok (.iconst 1, 1) := by decide +kernel
theorem dX11_traces_55 : decode cX11_traces 55 = .ok (.invokevirtual 420, 3) := by decide +kernel
theorem dX11_traces_58 : decode cX11_traces 58 = .ok (.iastore, 1) := by decide +kernel
theorem dX11_traces_59 : decode cX11_traces 59 = .ok (.aload_n 0, 1) := by decide +kernel
theorem dX11_traces_60 : decode cX11_traces 60 = .ok (.getfield 72, 3) := by decide +kernel
theorem dX11_traces_63 : decode cX11_traces 63 = .ok (.aload_n 0, 1) := by decide +kernel
theorem dX11_traces_64 : decode cX11_traces 64 = .ok (.getfield 424, 3) := by decide +kernel
theorem dX11_traces_67 : decode cX11_traces 67 = .ok (.iload 4, 2) := by decide +kernel
theorem dX11_traces_69 : decode cX11_traces 69 = .ok (.iastore, 1) := by decide +kernel
theorem dX11_traces_70 : decode cX11_traces 70 = .ok (.aload_n 0, 1) := by decide +kernel
theorem dX11_traces_71 : decode cX11_traces 71 = .ok (.dup, 1) := by decide +kernel
theorem dX11_traces_72 : decode cX11_traces 72 = .ok (.getfield 424, 3) := by decide +kernel
theorem dX11_traces_75 : decode cX11_traces 75 = .ok (.iconst 1, 1) := by decide +kernel
theorem dX11_traces_76 : decode cX11_traces 76 = .ok (.iadd, 1) := by decide +kernel
theorem dX11_traces_77 : decode cX11_traces 77 = .ok (.putfield 424, 3) := by decide +kernel
theorem dX11_traces_80 : decode cX11_traces 80 = .ok (.iinc 4 1, 3) := by decide +kernel
theorem dX11_traces_83 : decode cX11_traces 83 = .ok (.goto (-75), 3) := by decide +kernel
theorem dX11_traces_86 : decode cX11_traces 86 = .ok (.return_, 1) := by decide +kernel
theorem dX11_side_0 : decode cX11_side 0 = .ok (.aload_n 0, 1) := by decide +kernel
theorem dX11_side_1 : decode cX11_side 1 = .ok (.iload_n 1, 1) := by decide +kernel
theorem dX11_side_2 : decode cX11_side 2 = .ok (.invokevirtual 431, 3) := by decide +kernel
theorem dX11_side_5 : decode cX11_side 5 = .ok (.istore_n 3, 1) := by decide +kernel
theorem dX11_side_6 : decode cX11_side 6 = .ok (.aload_n 0, 1) := by decide +kernel
theorem dX11_side_7 : decode cX11_side 7 = .ok (.getfield 66, 3) := by decide +kernel
theorem dX11_side_10 : decode cX11_side 10 = .ok (.iload_n 3, 1) := by decide +kernel
theorem dX11_side_11 : decode cX11_side 11 = .ok (.iaload, 1) := by decide +kernel
theorem dX11_side_12 : decode cX11_side 12 = .ok (.aload_n 0, 1) := by decide +kernel
theorem dX11_side_13 : decode cX11_side 13 = .ok (.getfield 66, 3) := by decide +kernel
theorem dX11_side_16 : decode cX11_side 16 = .ok (.iload_n 1, 1) := by decide +kernel
theorem dX11_side_17 : decode cX11_side 17 = .ok (.iaload, 1) := by decide +kernel
theorem dX11_side_18 : decode cX11_side 18 = .ok (.isub, 1) := by decide +kernel
theorem dX11_side_19 : decode cX11_side 19 = .ok (.i2l, 1) := by decide +kernel
theorem dX11_side_20 : decode cX11_side 20 = .ok (.aload_n 0, 1) := by decide +kernel
theorem dX11_side_21 : decode cX11_side 21 = .ok (.getfield 69, 3) := by decide +kernel
theorem dX11_side_24 : decode cX11_side 24 = .ok (.iload_n 2, 1) := by decide +kernel
theorem dX11_side_25 : decode cX11_side 25 = .ok (.iaload, 1) := by decide +kernel
theorem dX11_side_26 : decode cX11_side 26 = .ok (.aload_n 0, 1) := by decide +kernel
theorem dX11_side_27 : decode cX11_side 27 = .ok (.getfield 69, 3) := by decide +kernel
theorem dX11_side_30 : decode cX11_side 30 = .ok (.iload_n 1, 1) := by decide +kernel
theorem dX11_side_31 : decode cX11_side 31 = .ok (.iaload, 1) := by decide +kernel
theorem dX11_side_32 : decode cX11_side 32 = .ok (.isub, 1) := by decide +kernel
theorem dX11_side_33 : decode cX11_side 33 = .ok (.i2l, 1) := by decide +kernel
theorem dX11_side_34 : decode cX11_side 34 = .ok (.lmul, 1) := by decide +kernel
theorem dX11_side_35 : decode cX11_side 35 = .ok (.aload_n 0, 1) := by decide +kernel
theorem dX11_side_36 : decode cX11_side 36 = .ok (.getfield 69, 3) := by decide +kernel
theorem dX11_side_39 : decode cX11_side 39 = .ok (.iload_n 3, 1) := by decide +kernel
theorem dX11_side_40 : decode cX11_side 40 = .ok (.iaload, 1) := by decide +kernel
theorem dX11_side_41 : decode cX11_side 41 = .ok (.aload_n 0, 1) := by decide +kernel
theorem dX11_side_42 : decode cX11_side 42 = .ok (.getfield 69, 3) := by decide +kernel
theorem dX11_side_45 : decode cX11_side 45 = .ok (.iload_n 1, 1) := by decide +kernel
theorem dX11_side_46 : decode cX11_side 46 = .ok (.iaload, 1) := by decide +kernel
theorem dX11_side_47 : decode cX11_side 47 = .ok (.isub, 1) := by decide +kernel
theorem dX11_side_48 : decode cX11_side 48 = .ok (.i2l, 1) := by decide +kernel
theorem dX11_side_49 : decode cX11_side 49 = .ok (.aload_n 0, 1) := by decide +kernel
theorem dX11_side_50 : decode cX11_side 50 = .ok (.getfield 66, 3) := by decide +kernel
theorem dX11_side_53 : decode cX11_side 53 = .ok (.iload_n 2, 1) := by decide +kernel
theorem dX11_side_54 : decode cX11_side 54 = .ok (.iaload, 1) := by decide +kernel
theorem dX11_side_55 : decode cX11_side 55 = .ok (.aload_n 0, 1) := by decide +kernel
theorem dX11_side_56 : decode cX11_side 56 = .ok (.getfield 66, 3) := by decide +kernel
theorem dX11_side_59 : decode cX11_side 59 = .ok (.iload_n 1, 1) := by decide +kernel
theorem dX11_side_60 : decode cX11_side 60 = .ok (.iaload, 1) := by decide +kernel
theorem dX11_side_61 : decode cX11_side 61 = .ok (.isub, 1) := by decide +kernel
theorem dX11_side_62 : decode cX11_side 62 = .ok (.i2l, 1) := by decide +kernel
theorem dX11_side_63 : decode cX11_side 63 = .ok (.lmul, 1) := by decide +kernel
theorem dX11_side_64 : decode cX11_side 64 = .ok (.lsub, 1) := by decide +kernel
theorem dX11_side_65 : decode cX11_side 65 = .ok (.lstore 4, 2) := by decide +kernel
theorem dX11_side_67 : decode cX11_side 67 = .ok (.lload 4, 2) := by decide +kernel
theorem dX11_side_69 : decode cX11_side 69 = .ok (.lconst 0, 1) := by decide +kernel
theorem dX11_side_70 : decode cX11_side 70 = .ok (.lcmp, 1) := by decide +kernel
theorem dX11_side_71 : decode cX11_side 71 = .ok (.ifCond .ge 7, 3) := by decide +kernel
theorem dX11_side_74 : decode cX11_side 74 = .ok (.iconst (-1), 1) := by decide +kernel
theorem dX11_side_75 : decode cX11_side 75 = .ok (.goto 15, 3) := by decide +kernel
theorem dX11_side_78 : decode cX11_side 78 = .ok (.lload 4, 2) := by decide +kernel
theorem dX11_side_80 : decode cX11_side 80 = .ok (.lconst 0, 1) := by decide +kernel
theorem dX11_side_81 : decode cX11_side 81 = .ok (.lcmp, 1) := by decide +kernel
theorem dX11_side_82 : decode cX11_side 82 = .ok (.ifCond .le 7, 3) := by decide +kernel
theorem dX11_side_85 : decode cX11_side 85 = .ok (.iconst 1, 1) := by decide +kernel
theorem dX11_side_86 : decode cX11_side 86 = .ok (.goto 4, 3) := by decide +kernel
theorem dX11_side_89 : decode cX11_side 89 = .ok (.iconst 0, 1) := by decide +kernel
theorem dX11_side_90 : decode cX11_side 90 = .ok (.ireturn, 1) := by decide +kernel
theorem dX11_turnOf_0 : decode cX11_turnOf 0 = .ok (.aload_n 0, 1) := by decide +kernel
theorem dX11_turnOf_1 : decode cX11_turnOf 1 = .ok (.getfield 66, 3) := by decide +kernel
theorem dX11_turnOf_4 : decode cX11_turnOf 4 = .ok (.iload_n 2, 1) := by decide +kernel
theorem dX11_turnOf_5 : decode cX11_turnOf 5 = .ok (.iaload, 1) := by decide +kernel
theorem dX11_turnOf_6 : decode cX11_turnOf 6 = .ok (.aload_n 0, 1) := by decide +kernel
theorem dX11_turnOf_7 : decode cX11_turnOf 7 = .ok (.getfield 66, 3) := by decide +kernel
theorem dX11_turnOf_10 : decode cX11_turnOf 10 = .ok (.iload_n 1, 1) := by decide +kernel
theorem dX11_turnOf_11 : decode cX11_turnOf 11 = .ok (.iaload, 1) := by decide +kernel
theorem dX11_turnOf_12 : decode cX11_turnOf 12 = .ok (.isub, 1) := by decide +kernel
theorem dX11_turnOf_13 : decode cX11_turnOf 13 = .ok (.i2l, 1) := by decide +kernel
theorem dX11_turnOf_14 : decode cX11_turnOf 14 = .ok (.aload_n 0, 1) := by decide +kernel
theorem dX11_turnOf_15 : decode cX11_turnOf 15 = .ok (.getfield 69, 3) := by decide +kernel
theorem dX11_turnOf_18 : decode cX11_turnOf 18 = .ok (.iload_n 2, 1) := by decide +kernel
theorem dX11_turnOf_19 : decode cX11_turnOf 19 = .ok (.iaload, 1) := by decide +kernel
theorem dX11_turnOf_20 : decode cX11_turnOf 20 = .ok (.aload_n 0, 1) := by decide +kernel
theorem dX11_turnOf_21 : decode cX11_turnOf 21 = .ok (.getfield 69, 3) := by decide +kernel
theorem dX11_turnOf_24 : decode cX11_turnOf 24 = .ok (.iload_n 1, 1) := by decide +kernel
theorem dX11_turnOf_25 : decode cX11_turnOf 25 = .ok (.iaload, 1) := by decide +kernel
theorem dX11_turnOf_26 : decode cX11_turnOf 26 = .ok (.isub, 1) := by decide +kernel
theorem dX11_turnOf_27 : decode cX11_turnOf 27 = .ok (.i2l, 1) := by decide +kernel
theorem dX11_turnOf_28 : decode cX11_turnOf 28 = .ok (.aload_n 0, 1) := by decide +kernel
theorem dX11_turnOf_29 : decode cX11_turnOf 29 = .ok (.getfield 66, 3) := by decide +kernel
theorem dX11_turnOf_32 : decode cX11_turnOf 32 = .ok (.iload_n 3, 1) := by decide +kernel
theorem dX11_turnOf_33 : decode cX11_turnOf 33 = .ok (.iaload, 1) := by decide +kernel
theorem dX11_turnOf_34 : decode cX11_turnOf 34 = .ok (.aload_n 0, 1) := by decide +kernel
theorem dX11_turnOf_35 : decode cX11_turnOf 35 = .ok (.getfield 66, 3) := by decide +kernel
theorem dX11_turnOf_38 : decode cX11_turnOf 38 = .ok (.iload_n 1, 1) := by decide +kernel
theorem dX11_turnOf_39 : decode cX11_turnOf 39 = .ok (.iaload, 1) := by decide +kernel
theorem dX11_turnOf_40 : decode cX11_turnOf 40 = .ok (.isub, 1) := by decide +kernel
theorem dX11_turnOf_41 : decode cX11_turnOf 41 = .ok (.i2l, 1) := by decide +kernel
theorem dX11_turnOf_42 : decode cX11_turnOf 42 = .ok (.aload_n 0, 1) := by decide +kernel
theorem dX11_turnOf_43 : decode cX11_turnOf 43 = .ok (.getfield 69, 3) := by decide +kernel
theorem dX11_turnOf_46 : decode cX11_turnOf 46 = .ok (.iload_n 3, 1) := by decide +kernel
theorem dX11_turnOf_47 : decode cX11_turnOf 47 = .ok (.iaload, 1) := by decide +kernel
theorem dX11_turnOf_48 : decode cX11_turnOf 48 = .ok (.aload_n 0, 1) := by decide +kernel
theorem dX11_turnOf_49 : decode cX11_turnOf 49 = .ok (.getfield 69, 3) := by decide +kernel
theorem dX11_turnOf_52 : decode cX11_turnOf 52 = .ok (.iload_n 1, 1) := by decide +kernel
theorem dX11_turnOf_53 : decode cX11_turnOf 53 = .ok (.iaload, 1) := by decide +kernel
theorem dX11_turnOf_54 : decode cX11_turnOf 54 = .ok (.isub, 1) := by decide +kernel
theorem dX11_turnOf_55 : decode cX11_turnOf 55 = .ok (.i2l, 1) := by decide +kernel
theorem dX11_turnOf_56 : decode cX11_turnOf 56 = .ok (.invokestatic 440, 3) := by decide +kernel
theorem dX11_turnOf_59 : decode cX11_turnOf 59 = .ok (.lreturn, 1) := by decide +kernel
theorem dX11_wraps_0 : decode cX11_wraps 0 = .ok (.aload_n 0, 1) := by decide +kernel
theorem dX11_wraps_1 : decode cX11_wraps 1 = .ok (.iload_n 1, 1) := by decide +kernel
theorem dX11_wraps_2 : decode cX11_wraps 2 = .ok (.iload_n 2, 1) := by decide +kernel
theorem dX11_wraps_3 : decode cX11_wraps 3 = .ok (.iload_n 3, 1) := by decide +kernel
theorem dX11_wraps_4 : decode cX11_wraps 4 = .ok (.invokevirtual 427, 3) := by decide +kernel
theorem dX11_wraps_7 : decode cX11_wraps 7 = .ok (.aload_n 0, 1) := by decide +kernel
theorem dX11_wraps_8 : decode cX11_wraps 8 = .ok (.iconst 0, 1) := by decide +kernel
theorem dX11_wraps_9 : decode cX11_wraps 9 = .ok (.putfield 455, 3) := by decide +kernel
theorem dX11_wraps_12 : decode cX11_wraps 12 = .ok (.aload_n 0, 1) := by decide +kernel
theorem dX11_wraps_13 : decode cX11_wraps 13 = .ok (.getfield 424, 3) := by decide +kernel
theorem dX11_wraps_16 : decode cX11_wraps 16 = .ok (.ifCond .ne 4, 3) := by decide +kernel
theorem dX11_wraps_19 : decode cX11_wraps 19 = .ok (.return_, 1) := by decide +kernel
theorem dX11_wraps_20 : decode cX11_wraps 20 = .ok (.iconst 0, 1) := by decide +kernel
theorem dX11_wraps_21 : decode cX11_wraps 21 = .ok (.istore 4, 2) := by decide +kernel
theorem dX11_wraps_23 : decode cX11_wraps 23 = .ok (.iconst 1, 1) := by decide +kernel
theorem dX11_wraps_24 : decode cX11_wraps 24 = .ok (.istore 5, 2) := by decide +kernel
theorem dX11_wraps_26 : decode cX11_wraps 26 = .ok (.iload 5, 2) := by decide +kernel
theorem dX11_wraps_28 : decode cX11_wraps 28 = .ok (.aload_n 0, 1) := by decide +kernel
theorem dX11_wraps_29 : decode cX11_wraps 29 = .ok (.getfield 424, 3) := by decide +kernel
theorem dX11_wraps_32 : decode cX11_wraps 32 = .ok (.if_icmp .ge 64, 3) := by decide +kernel
theorem dX11_wraps_35 : decode cX11_wraps 35 = .ok (.aload_n 0, 1) := by decide +kernel
theorem dX11_wraps_36 : decode cX11_wraps 36 = .ok (.getfield 66, 3) := by decide +kernel
theorem dX11_wraps_39 : decode cX11_wraps 39 = .ok (.iload 5, 2) := by decide +kernel
theorem dX11_wraps_41 : decode cX11_wraps 41 = .ok (.iaload, 1) := by decide +kernel
theorem dX11_wraps_42 : decode cX11_wraps 42 = .ok (.aload_n 0, 1) := by decide +kernel
theorem dX11_wraps_43 : decode cX11_wraps 43 = .ok (.getfield 66, 3) := by decide +kernel
theorem dX11_wraps_46 : decode cX11_wraps 46 = .ok (.iload 4, 2) := by decide +kernel
theorem dX11_wraps_48 : decode cX11_wraps 48 = .ok (.iaload, 1) := by decide +kernel
theorem dX11_wraps_49 : decode cX11_wraps 49 = .ok (.if_icmp .lt 37, 3) := by decide +kernel
theorem dX11_wraps_52 : decode cX11_wraps 52 = .ok (.aload_n 0, 1) := by decide +kernel
theorem dX11_wraps_53 : decode cX11_wraps 53 = .ok (.getfield 66, 3) := by decide +kernel
theorem dX11_wraps_56 : decode cX11_wraps 56 = .ok (.iload 5, 2) := by decide +kernel
theorem dX11_wraps_58 : decode cX11_wraps 58 = .ok (.iaload, 1) := by decide +kernel
theorem dX11_wraps_59 : decode cX11_wraps 59 = .ok (.aload_n 0, 1) := by decide +kernel
theorem dX11_wraps_60 : decode cX11_wraps 60 = .ok (.getfield 66, 3) := by decide +kernel
theorem dX11_wraps_63 : decode cX11_wraps 63 = .ok (.iload 4, 2) := by decide +kernel
theorem dX11_wraps_65 : decode cX11_wraps 65 = .ok (.iaload, 1) := by decide +kernel
theorem dX11_wraps_66 : decode cX11_wraps 66 = .ok (.if_icmp .ne 24, 3) := by decide +kernel
theorem dX11_wraps_69 : decode cX11_wraps 69 = .ok (.aload_n 0, 1) := by decide +kernel
theorem dX11_wraps_70 : decode cX11_wraps 70 = .ok (.getfield 69, 3) := by decide +kernel
theorem dX11_wraps_73 : decode cX11_wraps 73 = .ok (.iload 5, 2) := by decide +kernel
theorem dX11_wraps_75 : decode cX11_wraps 75 = .ok (.iaload, 1) := by decide +kernel
theorem dX11_wraps_76 : decode cX11_wraps 76 = .ok (.aload_n 0, 1) := by decide +kernel
theorem dX11_wraps_77 : decode cX11_wraps 77 = .ok (.getfield 69, 3) := by decide +kernel
theorem dX11_wraps_80 : decode cX11_wraps 80 = .ok (.iload 4, 2) := by decide +kernel
theorem dX11_wraps_82 : decode cX11_wraps 82 = .ok (.iaload, 1) := by decide +kernel
theorem dX11_wraps_83 : decode cX11_wraps 83 = .ok (.if_icmp .ge 7, 3) := by decide +kernel
theorem dX11_wraps_86 : decode cX11_wraps 86 = .ok (.iload 5, 2) := by decide +kernel
theorem dX11_wraps_88 : decode cX11_wraps 88 = .ok (.istore 4, 2) := by decide +kernel
theorem dX11_wraps_90 : decode cX11_wraps 90 = .ok (.iinc 5 1, 3) := by decide +kernel
theorem dX11_wraps_93 : decode cX11_wraps 93 = .ok (.goto (-67), 3) := by decide +kernel
theorem dX11_wraps_96 : decode cX11_wraps 96 = .ok (.iload 4, 2) := by decide +kernel
theorem dX11_wraps_98 : decode cX11_wraps 98 = .ok (.istore 5, 2) := by decide +kernel
theorem dX11_wraps_100 : decode cX11_wraps 100 = .ok (.iconst 0, 1) := by decide +kernel
theorem dX11_wraps_101 : decode cX11_wraps 101 = .ok (.istore 6, 2) := by decide +kernel
theorem dX11_wraps_103 : decode cX11_wraps 103 = .ok (.iload 6, 2) := by decide +kernel
theorem dX11_wraps_105 : decode cX11_wraps 105 = .ok (.ifCond .ne 45, 3) := by decide +kernel
theorem dX11_wraps_108 : decode cX11_wraps 108 = .ok (.aload_n 0, 1) := by decide +kernel
theorem dX11_wraps_109 : decode cX11_wraps 109 = .ok (.getfield 75, 3) := by decide +kernel
theorem dX11_wraps_112 : decode cX11_wraps 112 = .ok (.aload_n 0, 1) := by decide +kernel
theorem dX11_wraps_113 : decode cX11_wraps 113 = .ok (.getfield 455, 3) := by decide +kernel
theorem dX11_wraps_116 : decode cX11_wraps 116 = .ok (.iload 5, 2) := by decide +kernel
theorem dX11_wraps_118 : decode cX11_wraps 118 = .ok (.iastore, 1) := by decide +kernel
theorem dX11_wraps_119 : decode cX11_wraps 119 = .ok (.aload_n 0, 1) := by decide +kernel
theorem dX11_wraps_120 : decode cX11_wraps 120 = .ok (.dup, 1) := by decide +kernel
theorem dX11_wraps_121 : decode cX11_wraps 121 = .ok (.getfield 455, 3) := by decide +kernel
theorem dX11_wraps_124 : decode cX11_wraps 124 = .ok (.iconst 1, 1) := by decide +kernel
theorem dX11_wraps_125 : decode cX11_wraps 125 = .ok (.iadd, 1) := by decide +kernel
theorem dX11_wraps_126 : decode cX11_wraps 126 = .ok (.putfield 455, 3) := by decide +kernel
theorem dX11_wraps_129 : decode cX11_wraps 129 = .ok (.aload_n 0, 1) := by decide +kernel
theorem dX11_wraps_130 : decode cX11_wraps 130 = .ok (.iload 5, 2) := by decide +kernel
theorem dX11_wraps_132 : decode cX11_wraps 132 = .ok (.invokevirtual 458, 3) := by decide +kernel
theorem dX11_wraps_135 : decode cX11_wraps 135 = .ok (.istore 5, 2) := by decide +kernel
theorem dX11_wraps_137 : decode cX11_wraps 137 = .ok (.aload_n 0, 1) := by decide +kernel
theorem dX11_wraps_138 : decode cX11_wraps 138 = .ok (.iload 5, 2) := by decide +kernel
theorem dX11_wraps_140 : decode cX11_wraps 140 = .ok (.iload 4, 2) := by decide +kernel
theorem dX11_wraps_142 : decode cX11_wraps 142 = .ok (.invokevirtual 444, 3) := by decide +kernel
theorem dX11_wraps_145 : decode cX11_wraps 145 = .ok (.istore 6, 2) := by decide +kernel
theorem dX11_wraps_147 : decode cX11_wraps 147 = .ok (.goto (-44), 3) := by decide +kernel
theorem dX11_wraps_150 : decode cX11_wraps 150 = .ok (.return_, 1) := by decide +kernel
theorem dX11_straightMany_0 : decode cX11_straightMany 0 = .ok (.aload_n 0, 1) := by decide +kernel
theorem dX11_straightMany_1 : decode cX11_straightMany 1 = .ok (.iload_n 1, 1) := by decide +kernel
theorem dX11_straightMany_2 : decode cX11_straightMany 2 = .ok (.iload_n 2, 1) := by decide +kernel
theorem dX11_straightMany_3 : decode cX11_straightMany 3 = .ok (.iload_n 3, 1) := by decide +kernel
theorem dX11_straightMany_4 : decode cX11_straightMany 4 = .ok (.invokevirtual 427, 3) := by decide +kernel
theorem dX11_straightMany_7 : decode cX11_straightMany 7 = .ok (.iconst 0, 1) := by decide +kernel
theorem dX11_straightMany_8 : decode cX11_straightMany 8 = .ok (.istore 5, 2) := by decide +kernel
theorem dX11_straightMany_10 : decode cX11_straightMany 10 = .ok (.iconst 0, 1) := by decide +kernel
theorem dX11_straightMany_11 : decode cX11_straightMany 11 = .ok (.istore 6, 2) := by decide +kernel
theorem dX11_straightMany_13 : decode cX11_straightMany 13 = .ok (.iload 6, 2) := by decide +kernel
theorem dX11_straightMany_15 : decode cX11_straightMany 15 = .ok (.aload_n 0, 1) := by decide +kernel
theorem dX11_straightMany_16 : decode cX11_straightMany 16 = .ok (.getfield 424, 3) := by decide +kernel
theorem dX11_straightMany_19 : decode cX11_straightMany 19 = .ok (.if_icmp .ge 59, 3) := by decide +kernel
theorem dX11_straightMany_22 : decode cX11_straightMany 22 = .ok (.iload 6, 2) := by decide +kernel
theorem dX11_straightMany_24 : decode cX11_straightMany 24 = .ok (.iload 5, 2) := by decide +kernel
theorem dX11_straightMany_26 : decode cX11_straightMany 26 = .ok (.iadd, 1) := by decide +kernel
theorem dX11_straightMany_27 : decode cX11_straightMany 27 = .ok (.istore 7, 2) := by decide +kernel
theorem dX11_straightMany_29 : decode cX11_straightMany 29 = .ok (.iload 7, 2) := by decide +kernel
theorem dX11_straightMany_31 : decode cX11_straightMany 31 = .ok (.aload_n 0, 1) := by decide +kernel
theorem dX11_straightMany_32 : decode cX11_straightMany 32 = .ok (.getfield 424, 3) := by decide +kernel
theorem dX11_straightMany_35 : decode cX11_straightMany 35 = .ok (.if_icmp .ge 37, 3) := by decide +kernel
theorem dX11_straightMany_38 : decode cX11_straightMany 38 = .ok (.aload_n 0, 1) := by decide +kernel
theorem dX11_straightMany_39 : decode cX11_straightMany 39 = .ok (.iload 6, 2) := by decide +kernel
theorem dX11_straightMany_41 : decode cX11_straightMany 41 = .ok (.iload 7, 2) := by decide +kernel
theorem dX11_straightMany_43 : decode cX11_straightMany 43 = .ok (.iload 4, 2) := by decide +kernel
theorem dX11_straightMany_45 : decode cX11_straightMany 45 = .ok (.invokevirtual 464, 3) := by decide +kernel
theorem dX11_straightMany_48 : decode cX11_straightMany 48 = .ok (.ifCond .eq 18, 3) := by decide +kernel
theorem dX11_straightMany_51 : decode cX11_straightMany 51 = .ok (.iload 7, 2) := by decide +kernel
theorem dX11_straightMany_53 : decode cX11_straightMany 53 = .ok (.iload 6, 2) := by decide +kernel
theorem dX11_straightMany_55 : decode cX11_straightMany 55 = .ok (.isub, 1) := by decide +kernel
theorem dX11_straightMany_56 : decode cX11_straightMany 56 = .ok (.iconst 1, 1) := by decide +kernel
theorem dX11_straightMany_57 : decode cX11_straightMany 57 = .ok (.iadd, 1) := by decide +kernel
theorem dX11_straightMany_58 : decode cX11_straightMany 58 = .ok (.istore 5, 2) := by decide +kernel
theorem dX11_straightMany_60 : decode cX11_straightMany 60 = .ok (.aload_n 0, 1) := by decide +kernel
theorem dX11_straightMany_61 : decode cX11_straightMany 61 = .ok (.iload 6, 2) := by decide +kernel
theorem dX11_straightMany_63 : decode cX11_straightMany 63 = .ok (.putfield 467, 3) := by decide +kernel
theorem dX11_straightMany_66 : decode cX11_straightMany 66 = .ok (.iinc 7 1, 3) := by decide +kernel
theorem dX11_straightMany_69 : decode cX11_straightMany 69 = .ok (.goto (-40), 3) := by decide +kernel
theorem dX11_straightMany_72 : decode cX11_straightMany 72 = .ok (.iinc 6 1, 3) := by decide +kernel
theorem dX11_straightMany_75 : decode cX11_straightMany 75 = .ok (.goto (-62), 3) := by decide +kernel
theorem dX11_straightMany_78 : decode cX11_straightMany 78 = .ok (.iload 5, 2) := by decide +kernel
theorem dX11_straightMany_80 : decode cX11_straightMany 80 = .ok (.ireturn, 1) := by decide +kernel
theorem dX11_straight_0 : decode cX11_straight 0 = .ok (.aload_n 0, 1) := by decide +kernel
theorem dX11_straight_1 : decode cX11_straight 1 = .ok (.invokevirtual 104, 3) := by decide +kernel
theorem dX11_straight_4 : decode cX11_straight 4 = .ok (.aload_n 0, 1) := by decide +kernel
theorem dX11_straight_5 : decode cX11_straight 5 = .ok (.iload_n 1, 1) := by decide +kernel
theorem dX11_straight_6 : decode cX11_straight 6 = .ok (.iload_n 2, 1) := by decide +kernel
theorem dX11_straight_7 : decode cX11_straight 7 = .ok (.iload_n 3, 1) := by decide +kernel
theorem dX11_straight_8 : decode cX11_straight 8 = .ok (.invokevirtual 417, 3) := by decide +kernel
theorem dX11_straight_11 : decode cX11_straight 11 = .ok (.ifCond .ne 9, 3) := by decide +kernel
theorem dX11_straight_14 : decode cX11_straight 14 = .ok (.aload_n 0, 1) := by decide +kernel
theorem dX11_straight_15 : decode cX11_straight 15 = .ok (.iconst 1, 1) := by decide +kernel
theorem dX11_straight_16 : decode cX11_straight 16 = .ok (.invokevirtual 115, 3) := by decide +kernel
theorem dX11_straight_19 : decode cX11_straight 19 = .ok (.ireturn, 1) := by decide +kernel
theorem dX11_straight_20 : decode cX11_straight 20 = .ok (.iload 4, 2) := by decide +kernel
theorem dX11_straight_22 : decode cX11_straight 22 = .ok (.iconst 0, 1) := by decide +kernel
theorem dX11_straight_23 : decode cX11_straight 23 = .ok (.bipush 100, 2) := by decide +kernel
theorem dX11_straight_25 : decode cX11_straight 25 = .ok (.invokestatic 107, 3) := by decide +kernel
theorem dX11_straight_28 : decode cX11_straight 28 = .ok (.ifCond .eq 15, 3) := by decide +kernel
theorem dX11_straight_31 : decode cX11_straight 31 = .ok (.aload_n 0, 1) := by decide +kernel
theorem dX11_straight_32 : decode cX11_straight 32 = .ok (.iload_n 1, 1) := by decide +kernel
theorem dX11_straight_33 : decode cX11_straight 33 = .ok (.iload_n 2, 1) := by decide +kernel
theorem dX11_straight_34 : decode cX11_straight 34 = .ok (.iload_n 3, 1) := by decide +kernel
theorem dX11_straight_35 : decode cX11_straight 35 = .ok (.iload 4, 2) := by decide +kernel
theorem dX11_straight_37 : decode cX11_straight 37 = .ok (.invokevirtual 470, 3) := by decide +kernel
theorem dX11_straight_40 : decode cX11_straight 40 = .ok (.goto 8, 3) := by decide +kernel
theorem dX11_straight_43 : decode cX11_straight 43 = .ok (.aload_n 0, 1) := by decide +kernel
theorem dX11_straight_44 : decode cX11_straight 44 = .ok (.iconst 2, 1) := by decide +kernel
theorem dX11_straight_45 : decode cX11_straight 45 = .ok (.invokevirtual 115, 3) := by decide +kernel
theorem dX11_straight_48 : decode cX11_straight 48 = .ok (.ireturn, 1) := by decide +kernel
theorem dX11_straightFrom_0 : decode cX11_straightFrom 0 = .ok (.aload_n 0, 1) := by decide +kernel
theorem dX11_straightFrom_1 : decode cX11_straightFrom 1 = .ok (.invokevirtual 104, 3) := by decide +kernel
theorem dX11_straightFrom_4 : decode cX11_straightFrom 4 = .ok (.aload_n 0, 1) := by decide +kernel
theorem dX11_straightFrom_5 : decode cX11_straightFrom 5 = .ok (.iload_n 1, 1) := by decide +kernel
theorem dX11_straightFrom_6 : decode cX11_straightFrom 6 = .ok (.iload_n 2, 1) := by decide +kernel
theorem dX11_straightFrom_7 : decode cX11_straightFrom 7 = .ok (.iload_n 3, 1) := by decide +kernel
theorem dX11_straightFrom_8 : decode cX11_straightFrom 8 = .ok (.invokevirtual 417, 3) := by decide +kernel
theorem dX11_straightFrom_11 : decode cX11_straightFrom 11 = .ok (.ifCond .ne 9, 3) := by decide +kernel
theorem dX11_straightFrom_14 : decode cX11_straightFrom 14 = .ok (.aload_n 0, 1) := by decide +kernel
theorem dX11_straightFrom_15 : decode cX11_straightFrom 15 = .ok (.iconst 1, 1) := by decide +kernel
theorem dX11_straightFrom_16 : decode cX11_straightFrom 16 = .ok (.invokevirtual 115, 3) := by decide +kernel
theorem dX11_straightFrom_19 : decode cX11_straightFrom 19 = .ok (.ireturn, 1) := by decide +kernel
theorem dX11_straightFrom_20 : decode cX11_straightFrom 20 = .ok (.iload 4, 2) := by decide +kernel
theorem dX11_straightFrom_22 : decode cX11_straightFrom 22 = .ok (.iconst 0, 1) := by decide +kernel
theorem dX11_straightFrom_23 : decode cX11_straightFrom 23 = .ok (.bipush 100, 2) := by decide +kernel
theorem dX11_straightFrom_25 : decode cX11_straightFrom 25 = .ok (.invokestatic 107, 3) := by decide +kernel
theorem dX11_straightFrom_28 : decode cX11_straightFrom 28 = .ok (.ifCond .ne 9, 3) := by decide +kernel
theorem dX11_straightFrom_31 : decode cX11_straightFrom 31 = .ok (.aload_n 0, 1) := by decide +kernel
theorem dX11_straightFrom_32 : decode cX11_straightFrom 32 = .ok (.iconst 2, 1) := by decide +kernel
theorem dX11_straightFrom_33 : decode cX11_straightFrom 33 = .ok (.invokevirtual 115, 3) := by decide +kernel
theorem dX11_straightFrom_36 : decode cX11_straightFrom 36 = .ok (.ireturn, 1) := by decide +kernel
theorem dX11_straightFrom_37 : decode cX11_straightFrom 37 = .ok (.aload_n 0, 1) := by decide +kernel
theorem dX11_straightFrom_38 : decode cX11_straightFrom 38 = .ok (.iload_n 1, 1) := by decide +kernel
theorem dX11_straightFrom_39 : decode cX11_straightFrom 39 = .ok (.iload_n 2, 1) := by decide +kernel
theorem dX11_straightFrom_40 : decode cX11_straightFrom 40 = .ok (.iload_n 3, 1) := by decide +kernel
theorem dX11_straightFrom_41 : decode cX11_straightFrom 41 = .ok (.iload 4, 2) := by decide +kernel
theorem dX11_straightFrom_43 : decode cX11_straightFrom 43 = .ok (.invokevirtual 470, 3) := by decide +kernel
theorem dX11_straightFrom_46 : decode cX11_straightFrom 46 = .ok (.ifCond .ne 8, 3) := by decide +kernel
theorem dX11_straightFrom_49 : decode cX11_straightFrom 49 = .ok (.bipush (-2), 2) := by decide +kernel
theorem dX11_straightFrom_51 : decode cX11_straightFrom 51 = .ok (.goto 12, 3) := by decide +kernel
theorem dX11_straightFrom_54 : decode cX11_straightFrom 54 = .ok (.aload_n 0, 1) := by decide +kernel
theorem dX11_straightFrom_55 : decode cX11_straightFrom 55 = .ok (.getfield 72, 3) := by decide +kernel
theorem dX11_straightFrom_58 : decode cX11_straightFrom 58 = .ok (.aload_n 0, 1) := by decide +kernel
theorem dX11_straightFrom_59 : decode cX11_straightFrom 59 = .ok (.getfield 467, 3) := by decide +kernel
theorem dX11_straightFrom_62 : decode cX11_straightFrom 62 = .ok (.iaload, 1) := by decide +kernel
theorem dX11_straightFrom_63 : decode cX11_straightFrom 63 = .ok (.ireturn, 1) := by decide +kernel
theorem dX11_missAt_0 : decode cX11_missAt 0 = .ok (.aload_n 0, 1) := by decide +kernel
theorem dX11_missAt_1 : decode cX11_missAt 1 = .ok (.getfield 66, 3) := by decide +kernel
theorem dX11_missAt_4 : decode cX11_missAt 4 = .ok (.iload_n 1, 1) := by decide +kernel
theorem dX11_missAt_5 : decode cX11_missAt 5 = .ok (.iaload, 1) := by decide +kernel
theorem dX11_missAt_6 : decode cX11_missAt 6 = .ok (.aload_n 0, 1) := by decide +kernel
theorem dX11_missAt_7 : decode cX11_missAt 7 = .ok (.getfield 48, 3) := by decide +kernel
theorem dX11_missAt_10 : decode cX11_missAt 10 = .ok (.iconst 2, 1) := by decide +kernel
theorem dX11_missAt_11 : decode cX11_missAt 11 = .ok (.iload_n 2, 1) := by decide +kernel
theorem dX11_missAt_12 : decode cX11_missAt 12 = .ok (.imul, 1) := by decide +kernel
theorem dX11_missAt_13 : decode cX11_missAt 13 = .ok (.iaload, 1) := by decide +kernel
theorem dX11_missAt_14 : decode cX11_missAt 14 = .ok (.isub, 1) := by decide +kernel
theorem dX11_missAt_15 : decode cX11_missAt 15 = .ok (.istore_n 3, 1) := by decide +kernel
theorem dX11_missAt_16 : decode cX11_missAt 16 = .ok (.aload_n 0, 1) := by decide +kernel
theorem dX11_missAt_17 : decode cX11_missAt 17 = .ok (.getfield 69, 3) := by decide +kernel
theorem dX11_missAt_20 : decode cX11_missAt 20 = .ok (.iload_n 1, 1) := by decide +kernel
theorem dX11_missAt_21 : decode cX11_missAt 21 = .ok (.iaload, 1) := by decide +kernel
theorem dX11_missAt_22 : decode cX11_missAt 22 = .ok (.aload_n 0, 1) := by decide +kernel
theorem dX11_missAt_23 : decode cX11_missAt 23 = .ok (.getfield 48, 3) := by decide +kernel
theorem dX11_missAt_26 : decode cX11_missAt 26 = .ok (.iconst 2, 1) := by decide +kernel
theorem dX11_missAt_27 : decode cX11_missAt 27 = .ok (.iload_n 2, 1) := by decide +kernel
theorem dX11_missAt_28 : decode cX11_missAt 28 = .ok (.imul, 1) := by decide +kernel
theorem dX11_missAt_29 : decode cX11_missAt 29 = .ok (.iconst 1, 1) := by decide +kernel
theorem dX11_missAt_30 : decode cX11_missAt 30 = .ok (.iadd, 1) := by decide +kernel
theorem dX11_missAt_31 : decode cX11_missAt 31 = .ok (.iaload, 1) := by decide +kernel
theorem dX11_missAt_32 : decode cX11_missAt 32 = .ok (.isub, 1) := by decide +kernel
theorem dX11_missAt_33 : decode cX11_missAt 33 = .ok (.istore 4, 2) := by decide +kernel
theorem dX11_missAt_35 : decode cX11_missAt 35 = .ok (.iload_n 3, 1) := by decide +kernel
theorem dX11_missAt_36 : decode cX11_missAt 36 = .ok (.iload_n 3, 1) := by decide +kernel
theorem dX11_missAt_37 : decode cX11_missAt 37 = .ok (.imul, 1) := by decide +kernel
theorem dX11_missAt_38 : decode cX11_missAt 38 = .ok (.iload 4, 2) := by decide +kernel
theorem dX11_missAt_40 : decode cX11_missAt 40 = .ok (.iload 4, 2) := by decide +kernel
theorem dX11_missAt_42 : decode cX11_missAt 42 = .ok (.imul, 1) := by decide +kernel
theorem dX11_missAt_43 : decode cX11_missAt 43 = .ok (.iadd, 1) := by decide +kernel
theorem dX11_missAt_44 : decode cX11_missAt 44 = .ok (.ireturn, 1) := by decide +kernel
theorem dX11_near_0 : decode cX11_near 0 = .ok (.aload_n 0, 1) := by decide +kernel
theorem dX11_near_1 : decode cX11_near 1 = .ok (.invokevirtual 104, 3) := by decide +kernel
theorem dX11_near_4 : decode cX11_near 4 = .ok (.aload_n 0, 1) := by decide +kernel
theorem dX11_near_5 : decode cX11_near 5 = .ok (.iload_n 1, 1) := by decide +kernel
theorem dX11_near_6 : decode cX11_near 6 = .ok (.iload_n 2, 1) := by decide +kernel
theorem dX11_near_7 : decode cX11_near 7 = .ok (.iload_n 3, 1) := by decide +kernel
theorem dX11_near_8 : decode cX11_near 8 = .ok (.invokevirtual 417, 3) := by decide +kernel
theorem dX11_near_11 : decode cX11_near 11 = .ok (.ifCond .eq 12, 3) := by decide +kernel
theorem dX11_near_14 : decode cX11_near 14 = .ok (.aload_n 0, 1) := by decide +kernel
theorem dX11_near_15 : decode cX11_near 15 = .ok (.iload 4, 2) := by decide +kernel
theorem dX11_near_17 : decode cX11_near 17 = .ok (.invokevirtual 405, 3) := by decide +kernel
theorem dX11_near_20 : decode cX11_near 20 = .ok (.ifCond .ne 9, 3) := by decide +kernel
theorem dX11_near_23 : decode cX11_near 23 = .ok (.aload_n 0, 1) := by decide +kernel
theorem dX11_near_24 : decode cX11_near 24 = .ok (.iconst 1, 1) := by decide +kernel
theorem dX11_near_25 : decode cX11_near 25 = .ok (.invokevirtual 115, 3) := by decide +kernel
theorem dX11_near_28 : decode cX11_near 28 = .ok (.ireturn, 1) := by decide +kernel
theorem dX11_near_29 : decode cX11_near 29 = .ok (.aload_n 0, 1) := by decide +kernel
theorem dX11_near_30 : decode cX11_near 30 = .ok (.iload_n 1, 1) := by decide +kernel
theorem dX11_near_31 : decode cX11_near 31 = .ok (.iload_n 2, 1) := by decide +kernel
theorem dX11_near_32 : decode cX11_near 32 = .ok (.iload_n 3, 1) := by decide +kernel
theorem dX11_near_33 : decode cX11_near 33 = .ok (.invokevirtual 427, 3) := by decide +kernel
theorem dX11_near_36 : decode cX11_near 36 = .ok (.iconst 0, 1) := by decide +kernel
theorem dX11_near_37 : decode cX11_near 37 = .ok (.istore 6, 2) := by decide +kernel
theorem dX11_near_39 : decode cX11_near 39 = .ok (.iload 6, 2) := by decide +kernel
theorem dX11_near_41 : decode cX11_near 41 = .ok (.aload_n 0, 1) := by decide +kernel
theorem dX11_near_42 : decode cX11_near 42 = .ok (.getfield 424, 3) := by decide +kernel
theorem dX11_near_45 : decode cX11_near 45 = .ok (.if_icmp .ge 30, 3) := by decide +kernel
theorem dX11_near_48 : decode cX11_near 48 = .ok (.aload_n 0, 1) := by decide +kernel
theorem dX11_near_49 : decode cX11_near 49 = .ok (.iload 6, 2) := by decide +kernel
theorem dX11_near_51 : decode cX11_near 51 = .ok (.iload 4, 2) := by decide +kernel
theorem dX11_near_53 : decode cX11_near 53 = .ok (.invokevirtual 477, 3) := by decide +kernel
theorem dX11_near_56 : decode cX11_near 56 = .ok (.iload 5, 2) := by decide +kernel
theorem dX11_near_58 : decode cX11_near 58 = .ok (.if_icmp .ne 11, 3) := by decide +kernel
theorem dX11_near_61 : decode cX11_near 61 = .ok (.aload_n 0, 1) := by decide +kernel
theorem dX11_near_62 : decode cX11_near 62 = .ok (.getfield 72, 3) := by decide +kernel
theorem dX11_near_65 : decode cX11_near 65 = .ok (.iload 6, 2) := by decide +kernel
theorem dX11_near_67 : decode cX11_near 67 = .ok (.iaload, 1) := by decide +kernel
theorem dX11_near_68 : decode cX11_near 68 = .ok (.ireturn, 1) := by decide +kernel
theorem dX11_near_69 : decode cX11_near 69 = .ok (.iinc 6 1, 3) := by decide +kernel
theorem dX11_near_72 : decode cX11_near 72 = .ok (.goto (-33), 3) := by decide +kernel
theorem dX11_near_75 : decode cX11_near 75 = .ok (.aload_n 0, 1) := by decide +kernel
theorem dX11_near_76 : decode cX11_near 76 = .ok (.iconst 1, 1) := by decide +kernel
theorem dX11_near_77 : decode cX11_near 77 = .ok (.invokevirtual 115, 3) := by decide +kernel
theorem dX11_near_80 : decode cX11_near 80 = .ok (.ireturn, 1) := by decide +kernel
theorem dX11_leastMiss_0 : decode cX11_leastMiss 0 = .ok (.iconst (-1), 1) := by decide +kernel
theorem dX11_leastMiss_1 : decode cX11_leastMiss 1 = .ok (.istore_n 2, 1) := by decide +kernel
theorem dX11_leastMiss_2 : decode cX11_leastMiss 2 = .ok (.iconst 0, 1) := by decide +kernel
theorem dX11_leastMiss_3 : decode cX11_leastMiss 3 = .ok (.istore_n 3, 1) := by decide +kernel
theorem dX11_leastMiss_4 : decode cX11_leastMiss 4 = .ok (.iload_n 3, 1) := by decide +kernel
theorem dX11_leastMiss_5 : decode cX11_leastMiss 5 = .ok (.aload_n 0, 1) := by decide +kernel
theorem dX11_leastMiss_6 : decode cX11_leastMiss 6 = .ok (.getfield 424, 3) := by decide +kernel
theorem dX11_leastMiss_9 : decode cX11_leastMiss 9 = .ok (.if_icmp .ge 35, 3) := by decide +kernel
theorem dX11_leastMiss_12 : decode cX11_leastMiss 12 = .ok (.iload_n 2, 1) := by decide +kernel
theorem dX11_leastMiss_13 : decode cX11_leastMiss 13 = .ok (.iconst (-1), 1) := by decide +kernel
theorem dX11_leastMiss_14 : decode cX11_leastMiss 14 = .ok (.if_icmp .eq 13, 3) := by decide +kernel
theorem dX11_leastMiss_17 : decode cX11_leastMiss 17 = .ok (.aload_n 0, 1) := by decide +kernel
theorem dX11_leastMiss_18 : decode cX11_leastMiss 18 = .ok (.iload_n 3, 1) := by decide +kernel
theorem dX11_leastMiss_19 : decode cX11_leastMiss 19 = .ok (.iload_n 1, 1) := by decide +kernel
theorem dX11_leastMiss_20 : decode cX11_leastMiss 20 = .ok (.invokevirtual 474, 3) := by decide +kernel
theorem dX11_leastMiss_23 : decode cX11_leastMiss 23 = .ok (.iload_n 2, 1) := by decide +kernel
theorem dX11_leastMiss_24 : decode cX11_leastMiss 24 = .ok (.if_icmp .ge 12, 3) := by decide +kernel
theorem dX11_leastMiss_27 : decode cX11_leastMiss 27 = .ok (.aload_n 0, 1) := by decide +kernel
theorem dX11_leastMiss_28 : decode cX11_leastMiss 28 = .ok (.iload_n 3, 1) := by decide +kernel
theorem dX11_leastMiss_29 : decode cX11_leastMiss 29 = .ok (.iload_n 1, 1) := by decide +kernel
theorem dX11_leastMiss_30 : decode cX11_leastMiss 30 = .ok (.invokevirtual 474, 3) := by decide +kernel
theorem dX11_leastMiss_33 : decode cX11_leastMiss 33 = .ok (.goto 4, 3) := by decide +kernel
theorem dX11_leastMiss_36 : decode cX11_leastMiss 36 = .ok (.iload_n 2, 1) := by decide +kernel
theorem dX11_leastMiss_37 : decode cX11_leastMiss 37 = .ok (.istore_n 2, 1) := by decide +kernel
theorem dX11_leastMiss_38 : decode cX11_leastMiss 38 = .ok (.iinc 3 1, 3) := by decide +kernel
theorem dX11_leastMiss_41 : decode cX11_leastMiss 41 = .ok (.goto (-37), 3) := by decide +kernel
theorem dX11_leastMiss_44 : decode cX11_leastMiss 44 = .ok (.iload_n 2, 1) := by decide +kernel
theorem dX11_leastMiss_45 : decode cX11_leastMiss 45 = .ok (.ireturn, 1) := by decide +kernel
theorem dX11_miss_0 : decode cX11_miss 0 = .ok (.aload_n 0, 1) := by decide +kernel
theorem dX11_miss_1 : decode cX11_miss 1 = .ok (.invokevirtual 104, 3) := by decide +kernel
theorem dX11_miss_4 : decode cX11_miss 4 = .ok (.aload_n 0, 1) := by decide +kernel
theorem dX11_miss_5 : decode cX11_miss 5 = .ok (.iload_n 1, 1) := by decide +kernel
theorem dX11_miss_6 : decode cX11_miss 6 = .ok (.iload_n 2, 1) := by decide +kernel
theorem dX11_miss_7 : decode cX11_miss 7 = .ok (.iload_n 3, 1) := by decide +kernel
theorem dX11_miss_8 : decode cX11_miss 8 = .ok (.invokevirtual 417, 3) := by decide +kernel
theorem dX11_miss_11 : decode cX11_miss 11 = .ok (.ifCond .eq 12, 3) := by decide +kernel
theorem dX11_miss_14 : decode cX11_miss 14 = .ok (.aload_n 0, 1) := by decide +kernel
theorem dX11_miss_15 : decode cX11_miss 15 = .ok (.iload 4, 2) := by decide +kernel
theorem dX11_miss_17 : decode cX11_miss 17 = .ok (.invokevirtual 405, 3) := by decide +kernel
theorem dX11_miss_20 : decode cX11_miss 20 = .ok (.ifCond .ne 9, 3) := by decide +kernel
theorem dX11_miss_23 : decode cX11_miss 23 = .ok (.aload_n 0, 1) := by decide +kernel
theorem dX11_miss_24 : decode cX11_miss 24 = .ok (.iconst 1, 1) := by decide +kernel
theorem dX11_miss_25 : decode cX11_miss 25 = .ok (.invokevirtual 115, 3) := by decide +kernel
theorem dX11_miss_28 : decode cX11_miss 28 = .ok (.ireturn, 1) := by decide +kernel
theorem dX11_miss_29 : decode cX11_miss 29 = .ok (.aload_n 0, 1) := by decide +kernel
theorem dX11_miss_30 : decode cX11_miss 30 = .ok (.iload_n 1, 1) := by decide +kernel
theorem dX11_miss_31 : decode cX11_miss 31 = .ok (.iload_n 2, 1) := by decide +kernel
theorem dX11_miss_32 : decode cX11_miss 32 = .ok (.iload_n 3, 1) := by decide +kernel
theorem dX11_miss_33 : decode cX11_miss 33 = .ok (.invokevirtual 427, 3) := by decide +kernel
theorem dX11_miss_36 : decode cX11_miss 36 = .ok (.aload_n 0, 1) := by decide +kernel
theorem dX11_miss_37 : decode cX11_miss 37 = .ok (.getfield 424, 3) := by decide +kernel
theorem dX11_miss_40 : decode cX11_miss 40 = .ok (.ifCond .ne 11, 3) := by decide +kernel
theorem dX11_miss_43 : decode cX11_miss 43 = .ok (.aload_n 0, 1) := by decide +kernel
theorem dX11_miss_44 : decode cX11_miss 44 = .ok (.iconst 5, 1) := by decide +kernel
theorem dX11_miss_45 : decode cX11_miss 45 = .ok (.invokevirtual 115, 3) := by decide +kernel
theorem dX11_miss_48 : decode cX11_miss 48 = .ok (.goto 9, 3) := by decide +kernel
theorem dX11_miss_51 : decode cX11_miss 51 = .ok (.aload_n 0, 1) := by decide +kernel
theorem dX11_miss_52 : decode cX11_miss 52 = .ok (.iload 4, 2) := by decide +kernel
theorem dX11_miss_54 : decode cX11_miss 54 = .ok (.invokevirtual 480, 3) := by decide +kernel
theorem dX11_miss_57 : decode cX11_miss 57 = .ok (.ireturn, 1) := by decide +kernel
theorem dX11_met_0 : decode cX11_met 0 = .ok (.aload_n 0, 1) := by decide +kernel
theorem dX11_met_1 : decode cX11_met 1 = .ok (.invokevirtual 104, 3) := by decide +kernel
theorem dX11_met_4 : decode cX11_met 4 = .ok (.aload_n 0, 1) := by decide +kernel
theorem dX11_met_5 : decode cX11_met 5 = .ok (.iload_n 1, 1) := by decide +kernel
theorem dX11_met_6 : decode cX11_met 6 = .ok (.iload_n 2, 1) := by decide +kernel
theorem dX11_met_7 : decode cX11_met 7 = .ok (.iload_n 3, 1) := by decide +kernel
theorem dX11_met_8 : decode cX11_met 8 = .ok (.invokevirtual 417, 3) := by decide +kernel
theorem dX11_met_11 : decode cX11_met 11 = .ok (.ifCond .eq 12, 3) := by decide +kernel
theorem dX11_met_14 : decode cX11_met 14 = .ok (.aload_n 0, 1) := by decide +kernel
theorem dX11_met_15 : decode cX11_met 15 = .ok (.iload 4, 2) := by decide +kernel
theorem dX11_met_17 : decode cX11_met 17 = .ok (.invokevirtual 405, 3) := by decide +kernel
theorem dX11_met_20 : decode cX11_met 20 = .ok (.ifCond .ne 9, 3) := by decide +kernel
theorem dX11_met_23 : decode cX11_met 23 = .ok (.aload_n 0, 1) := by decide +kernel
theorem dX11_met_24 : decode cX11_met 24 = .ok (.iconst 1, 1) := by decide +kernel
theorem dX11_met_25 : decode cX11_met 25 = .ok (.invokevirtual 115, 3) := by decide +kernel
theorem dX11_met_28 : decode cX11_met 28 = .ok (.ireturn, 1) := by decide +kernel
theorem dX11_met_29 : decode cX11_met 29 = .ok (.iconst 0, 1) := by decide +kernel
theorem dX11_met_30 : decode cX11_met 30 = .ok (.istore 5, 2) := by decide +kernel
theorem dX11_met_32 : decode cX11_met 32 = .ok (.iload 5, 2) := by decide +kernel
theorem dX11_met_34 : decode cX11_met 34 = .ok (.aload_n 0, 1) := by decide +kernel
theorem dX11_met_35 : decode cX11_met 35 = .ok (.getfield 101, 3) := by decide +kernel
theorem dX11_met_38 : decode cX11_met 38 = .ok (.if_icmp .ge 108, 3) := by decide +kernel
theorem dX11_met_41 : decode cX11_met 41 = .ok (.aload_n 0, 1) := by decide +kernel
theorem dX11_met_42 : decode cX11_met 42 = .ok (.iload_n 1, 1) := by decide +kernel
theorem dX11_met_43 : decode cX11_met 43 = .ok (.iload 5, 2) := by decide +kernel
theorem dX11_met_45 : decode cX11_met 45 = .ok (.invokevirtual 318, 3) := by decide +kernel
theorem dX11_met_48 : decode cX11_met 48 = .ok (.ifCond .ne 6, 3) := by decide +kernel
theorem dX11_met_51 : decode cX11_met 51 = .ok (.goto 89, 3) := by decide +kernel
theorem dX11_met_54 : decode cX11_met 54 = .ok (.iconst 1, 1) := by decide +kernel
theorem dX11_met_55 : decode cX11_met 55 = .ok (.istore 6, 2) := by decide +kernel
theorem dX11_met_57 : decode cX11_met 57 = .ok (.iconst 0, 1) := by decide +kernel
theorem dX11_met_58 : decode cX11_met 58 = .ok (.istore 7, 2) := by decide +kernel
theorem dX11_met_60 : decode cX11_met 60 = .ok (.iload 7, 2) := by decide +kernel
theorem dX11_met_62 : decode cX11_met 62 = .ok (.iconst 2, 1) := by decide +kernel
theorem dX11_met_63 : decode cX11_met 63 = .ok (.if_icmp .ge 69, 3) := by decide +kernel
theorem dX11_met_66 : decode cX11_met 66 = .ok (.iload 6, 2) := by decide +kernel
theorem dX11_met_68 : decode cX11_met 68 = .ok (.ifCond .eq 55, 3) := by decide +kernel
theorem dX11_met_71 : decode cX11_met 71 = .ok (.aload_n 0, 1) := by decide +kernel
theorem dX11_met_72 : decode cX11_met 72 = .ok (.aload_n 0, 1) := by decide +kernel
theorem dX11_met_73 : decode cX11_met 73 = .ok (.iload_n 2, 1) := by decide +kernel
theorem dX11_met_74 : decode cX11_met 74 = .ok (.iload 7, 2) := by decide +kernel
theorem dX11_met_76 : decode cX11_met 76 = .ok (.invokevirtual 410, 3) := by decide +kernel
theorem dX11_met_79 : decode cX11_met 79 = .ok (.aload_n 0, 1) := by decide +kernel
theorem dX11_met_80 : decode cX11_met 80 = .ok (.iload_n 2, 1) := by decide +kernel
theorem dX11_met_81 : decode cX11_met 81 = .ok (.iload_n 3, 1) := by decide +kernel
theorem dX11_met_82 : decode cX11_met 82 = .ok (.iload 7, 2) := by decide +kernel
theorem dX11_met_84 : decode cX11_met 84 = .ok (.invokevirtual 413, 3) := by decide +kernel
theorem dX11_met_87 : decode cX11_met 87 = .ok (.ldc2_w 344, 3) := by decide +kernel
theorem dX11_met_90 : decode cX11_met 90 = .ok (.aload_n 0, 1) := by decide +kernel
theorem dX11_met_91 : decode cX11_met 91 = .ok (.getfield 355, 3) := by decide +kernel
theorem dX11_met_94 : decode cX11_met 94 = .ok (.lmul, 1) := by decide +kernel
theorem dX11_met_95 : decode cX11_met 95 = .ok (.aload_n 0, 1) := by decide +kernel
theorem dX11_met_96 : decode cX11_met 96 = .ok (.getfield 328, 3) := by decide +kernel
theorem dX11_met_99 : decode cX11_met 99 = .ok (.lmul, 1) := by decide +kernel
theorem dX11_met_100 : decode cX11_met 100 = .ok (.aload_n 0, 1) := by decide +kernel
theorem dX11_met_101 : decode cX11_met 101 = .ok (.getfield 48, 3) := by decide +kernel
theorem dX11_met_104 : decode cX11_met 104 = .ok (.iconst 2, 1) := by decide +kernel
theorem dX11_met_105 : decode cX11_met 105 = .ok (.iload 4, 2) := by decide +kernel
theorem dX11_met_107 : decode cX11_met 107 = .ok (.imul, 1) := by decide +kernel
theorem dX11_met_108 : decode cX11_met 108 = .ok (.iload 7, 2) := by decide +kernel
theorem dX11_met_110 : decode cX11_met 110 = .ok (.iadd, 1) := by decide +kernel
theorem dX11_met_111 : decode cX11_met 111 = .ok (.iaload, 1) := by decide +kernel
theorem dX11_met_112 : decode cX11_met 112 = .ok (.i2l, 1) := by decide +kernel
theorem dX11_met_113 : decode cX11_met 113 = .ok (.invokevirtual 485, 3) := by decide +kernel
theorem dX11_met_116 : decode cX11_met 116 = .ok (.ifCond .eq 7, 3) := by decide +kernel
theorem dX11_met_119 : decode cX11_met 119 = .ok (.iconst 1, 1) := by decide +kernel
theorem dX11_met_120 : decode cX11_met 120 = .ok (.goto 4, 3) := by decide +kernel
theorem dX11_met_123 : decode cX11_met 123 = .ok (.iconst 0, 1) := by decide +kernel
theorem dX11_met_124 : decode cX11_met 124 = .ok (.istore 6, 2) := by decide +kernel
theorem dX11_met_126 : decode cX11_met 126 = .ok (.iinc 7 1, 3) := by decide +kernel
theorem dX11_met_129 : decode cX11_met 129 = .ok (.goto (-69), 3) := by decide +kernel
theorem dX11_met_132 : decode cX11_met 132 = .ok (.iload 6, 2) := by decide +kernel
theorem dX11_met_134 : decode cX11_met 134 = .ok (.ifCond .eq 6, 3) := by decide +kernel
theorem dX11_met_137 : decode cX11_met 137 = .ok (.iload 5, 2) := by decide +kernel
theorem dX11_met_139 : decode cX11_met 139 = .ok (.ireturn, 1) := by decide +kernel
theorem dX11_met_140 : decode cX11_met 140 = .ok (.iinc 5 1, 3) := by decide +kernel
theorem dX11_met_143 : decode cX11_met 143 = .ok (.goto (-111), 3) := by decide +kernel
theorem dX11_met_146 : decode cX11_met 146 = .ok (.bipush (-2), 2) := by decide +kernel
theorem dX11_met_148 : decode cX11_met 148 = .ok (.ireturn, 1) := by decide +kernel
theorem dX11_pair_0 : decode cX11_pair 0 = .ok (.aload_n 0, 1) := by decide +kernel
theorem dX11_pair_1 : decode cX11_pair 1 = .ok (.invokevirtual 104, 3) := by decide +kernel
theorem dX11_pair_4 : decode cX11_pair 4 = .ok (.aload_n 0, 1) := by decide +kernel
theorem dX11_pair_5 : decode cX11_pair 5 = .ok (.iload_n 1, 1) := by decide +kernel
theorem dX11_pair_6 : decode cX11_pair 6 = .ok (.invokevirtual 489, 3) := by decide +kernel
theorem dX11_pair_9 : decode cX11_pair 9 = .ok (.ifCond .eq 25, 3) := by decide +kernel
theorem dX11_pair_12 : decode cX11_pair 12 = .ok (.iload_n 2, 1) := by decide +kernel
theorem dX11_pair_13 : decode cX11_pair 13 = .ok (.iconst 0, 1) := by decide +kernel
theorem dX11_pair_14 : decode cX11_pair 14 = .ok (.iconst 3, 1) := by decide +kernel
theorem dX11_pair_15 : decode cX11_pair 15 = .ok (.invokestatic 107, 3) := by decide +kernel
theorem dX11_pair_18 : decode cX11_pair 18 = .ok (.ifCond .eq 16, 3) := by decide +kernel
theorem dX11_pair_21 : decode cX11_pair 21 = .ok (.aload_n 0, 1) := by decide +kernel
theorem dX11_pair_22 : decode cX11_pair 22 = .ok (.getfield 51, 3) := by decide +kernel
theorem dX11_pair_25 : decode cX11_pair 25 = .ok (.iconst 4, 1) := by decide +kernel
theorem dX11_pair_26 : decode cX11_pair 26 = .ok (.iload_n 1, 1) := by decide +kernel
theorem dX11_pair_27 : decode cX11_pair 27 = .ok (.imul, 1) := by decide +kernel
theorem dX11_pair_28 : decode cX11_pair 28 = .ok (.iload_n 2, 1) := by decide +kernel
theorem dX11_pair_29 : decode cX11_pair 29 = .ok (.iadd, 1) := by decide +kernel
theorem dX11_pair_30 : decode cX11_pair 30 = .ok (.iaload, 1) := by decide +kernel
theorem dX11_pair_31 : decode cX11_pair 31 = .ok (.goto 8, 3) := by decide +kernel
theorem dX11_pair_34 : decode cX11_pair 34 = .ok (.aload_n 0, 1) := by decide +kernel
theorem dX11_pair_35 : decode cX11_pair 35 = .ok (.iconst 1, 1) := by decide +kernel
theorem dX11_pair_36 : decode cX11_pair 36 = .ok (.invokevirtual 111, 3) := by decide +kernel
theorem dX11_pair_39 : decode cX11_pair 39 = .ok (.ireturn, 1) := by decide +kernel
theorem dX11_normOf_0 : decode cX11_normOf 0 = .ok (.aload_n 0, 1) := by decide +kernel
theorem dX11_normOf_1 : decode cX11_normOf 1 = .ok (.getfield 51, 3) := by decide +kernel
theorem dX11_normOf_4 : decode cX11_normOf 4 = .ok (.iconst 4, 1) := by decide +kernel
theorem dX11_normOf_5 : decode cX11_normOf 5 = .ok (.iload_n 1, 1) := by decide +kernel
theorem dX11_normOf_6 : decode cX11_normOf 6 = .ok (.imul, 1) := by decide +kernel
theorem dX11_normOf_7 : decode cX11_normOf 7 = .ok (.iload_n 2, 1) := by decide +kernel
theorem dX11_normOf_8 : decode cX11_normOf 8 = .ok (.iadd, 1) := by decide +kernel
theorem dX11_normOf_9 : decode cX11_normOf 9 = .ok (.iaload, 1) := by decide +kernel
theorem dX11_normOf_10 : decode cX11_normOf 10 = .ok (.aload_n 0, 1) := by decide +kernel
theorem dX11_normOf_11 : decode cX11_normOf 11 = .ok (.getfield 51, 3) := by decide +kernel
theorem dX11_normOf_14 : decode cX11_normOf 14 = .ok (.iconst 4, 1) := by decide +kernel
theorem dX11_normOf_15 : decode cX11_normOf 15 = .ok (.iload_n 1, 1) := by decide +kernel
theorem dX11_normOf_16 : decode cX11_normOf 16 = .ok (.imul, 1) := by decide +kernel
theorem dX11_normOf_17 : decode cX11_normOf 17 = .ok (.iload_n 2, 1) := by decide +kernel
theorem dX11_normOf_18 : decode cX11_normOf 18 = .ok (.iadd, 1) := by decide +kernel
theorem dX11_normOf_19 : decode cX11_normOf 19 = .ok (.iaload, 1) := by decide +kernel
theorem dX11_normOf_20 : decode cX11_normOf 20 = .ok (.imul, 1) := by decide +kernel
theorem dX11_normOf_21 : decode cX11_normOf 21 = .ok (.aload_n 0, 1) := by decide +kernel
theorem dX11_normOf_22 : decode cX11_normOf 22 = .ok (.getfield 51, 3) := by decide +kernel
theorem dX11_normOf_25 : decode cX11_normOf 25 = .ok (.iconst 4, 1) := by decide +kernel
theorem dX11_normOf_26 : decode cX11_normOf 26 = .ok (.iload_n 1, 1) := by decide +kernel
theorem dX11_normOf_27 : decode cX11_normOf 27 = .ok (.imul, 1) := by decide +kernel
theorem dX11_normOf_28 : decode cX11_normOf 28 = .ok (.iload_n 2, 1) := by decide +kernel
theorem dX11_normOf_29 : decode cX11_normOf 29 = .ok (.iadd, 1) := by decide +kernel
theorem dX11_normOf_30 : decode cX11_normOf 30 = .ok (.iconst 1, 1) := by decide +kernel
theorem dX11_normOf_31 : decode cX11_normOf 31 = .ok (.iadd, 1) := by decide +kernel
theorem dX11_normOf_32 : decode cX11_normOf 32 = .ok (.iaload, 1) := by decide +kernel
theorem dX11_normOf_33 : decode cX11_normOf 33 = .ok (.aload_n 0, 1) := by decide +kernel
theorem dX11_normOf_34 : decode cX11_normOf 34 = .ok (.getfield 51, 3) := by decide +kernel
theorem dX11_normOf_37 : decode cX11_normOf 37 = .ok (.iconst 4, 1) := by decide +kernel
theorem dX11_normOf_38 : decode cX11_normOf 38 = .ok (.iload_n 1, 1) := by decide +kernel
theorem dX11_normOf_39 : decode cX11_normOf 39 = .ok (.imul, 1) := by decide +kernel
theorem dX11_normOf_40 : decode cX11_normOf 40 = .ok (.iload_n 2, 1) := by decide +kernel
theorem dX11_normOf_41 : decode cX11_normOf 41 = .ok (.iadd, 1) := by decide +kernel
theorem dX11_normOf_42 : decode cX11_normOf 42 = .ok (.iconst 1, 1) := by decide +kernel
theorem dX11_normOf_43 : decode cX11_normOf 43 = .ok (.iadd, 1) := by decide +kernel
theorem dX11_normOf_44 : decode cX11_normOf 44 = .ok (.iaload, 1) := by decide +kernel
theorem dX11_normOf_45 : decode cX11_normOf 45 = .ok (.imul, 1) := by decide +kernel
theorem dX11_normOf_46 : decode cX11_normOf 46 = .ok (.iadd, 1) := by decide +kernel
theorem dX11_normOf_47 : decode cX11_normOf 47 = .ok (.ireturn, 1) := by decide +kernel
theorem dX11_sinOf_0 : decode cX11_sinOf 0 = .ok (.iconst 2, 1) := by decide +kernel
theorem dX11_sinOf_1 : decode cX11_sinOf 1 = .ok (.aload_n 0, 1) := by decide +kernel
theorem dX11_sinOf_2 : decode cX11_sinOf 2 = .ok (.getfield 51, 3) := by decide +kernel
theorem dX11_sinOf_5 : decode cX11_sinOf 5 = .ok (.iconst 4, 1) := by decide +kernel
theorem dX11_sinOf_6 : decode cX11_sinOf 6 = .ok (.iload_n 1, 1) := by decide +kernel
theorem dX11_sinOf_7 : decode cX11_sinOf 7 = .ok (.imul, 1) := by decide +kernel
theorem dX11_sinOf_8 : decode cX11_sinOf 8 = .ok (.iload_n 2, 1) := by decide +kernel
theorem dX11_sinOf_9 : decode cX11_sinOf 9 = .ok (.iadd, 1) := by decide +kernel
theorem dX11_sinOf_10 : decode cX11_sinOf 10 = .ok (.iaload, 1) := by decide +kernel
theorem dX11_sinOf_11 : decode cX11_sinOf 11 = .ok (.imul, 1) := by decide +kernel
theorem dX11_sinOf_12 : decode cX11_sinOf 12 = .ok (.aload_n 0, 1) := by decide +kernel
theorem dX11_sinOf_13 : decode cX11_sinOf 13 = .ok (.getfield 51, 3) := by decide +kernel
theorem dX11_sinOf_16 : decode cX11_sinOf 16 = .ok (.iconst 4, 1) := by decide +kernel
theorem dX11_sinOf_17 : decode cX11_sinOf 17 = .ok (.iload_n 1, 1) := by decide +kernel
theorem dX11_sinOf_18 : decode cX11_sinOf 18 = .ok (.imul, 1) := by decide +kernel
theorem dX11_sinOf_19 : decode cX11_sinOf 19 = .ok (.iload_n 2, 1) := by decide +kernel
theorem dX11_sinOf_20 : decode cX11_sinOf 20 = .ok (.iadd, 1) := by decide +kernel
theorem dX11_sinOf_21 : decode cX11_sinOf 21 = .ok (.iconst 1, 1) := by decide +kernel
theorem dX11_sinOf_22 : decode cX11_sinOf 22 = .ok (.iadd, 1) := by decide +kernel
theorem dX11_sinOf_23 : decode cX11_sinOf 23 = .ok (.iaload, 1) := by decide +kernel
theorem dX11_sinOf_24 : decode cX11_sinOf 24 = .ok (.imul, 1) := by decide +kernel
theorem dX11_sinOf_25 : decode cX11_sinOf 25 = .ok (.ireturn, 1) := by decide +kernel
theorem dX11_worst_0 : decode cX11_worst 0 = .ok (.aload_n 0, 1) := by decide +kernel
theorem dX11_worst_1 : decode cX11_worst 1 = .ok (.lconst 0, 1) := by decide +kernel
theorem dX11_worst_2 : decode cX11_worst 2 = .ok (.putfield 511, 3) := by decide +kernel
theorem dX11_worst_5 : decode cX11_worst 5 = .ok (.aload_n 0, 1) := by decide +kernel
theorem dX11_worst_6 : decode cX11_worst 6 = .ok (.lconst 1, 1) := by decide +kernel
theorem dX11_worst_7 : decode cX11_worst 7 = .ok (.putfield 514, 3) := by decide +kernel
theorem dX11_worst_10 : decode cX11_worst 10 = .ok (.iconst 0, 1) := by decide +kernel
theorem dX11_worst_11 : decode cX11_worst 11 = .ok (.istore 4, 2) := by decide +kernel
theorem dX11_worst_13 : decode cX11_worst 13 = .ok (.iload 4, 2) := by decide +kernel
theorem dX11_worst_15 : decode cX11_worst 15 = .ok (.aload_n 0, 1) := by decide +kernel
theorem dX11_worst_16 : decode cX11_worst 16 = .ok (.getfield 242, 3) := by decide +kernel
theorem dX11_worst_19 : decode cX11_worst 19 = .ok (.if_icmp .ge 69, 3) := by decide +kernel
theorem dX11_worst_22 : decode cX11_worst 22 = .ok (.aload_n 0, 1) := by decide +kernel
theorem dX11_worst_23 : decode cX11_worst 23 = .ok (.iload 4, 2) := by decide +kernel
theorem dX11_worst_25 : decode cX11_worst 25 = .ok (.aload_n 0, 1) := by decide +kernel
theorem dX11_worst_26 : decode cX11_worst 26 = .ok (.iconst 0, 1) := by decide +kernel
theorem dX11_worst_27 : decode cX11_worst 27 = .ok (.iconst 0, 1) := by decide +kernel
theorem dX11_worst_28 : decode cX11_worst 28 = .ok (.invokevirtual 252, 3) := by decide +kernel
theorem dX11_worst_31 : decode cX11_worst 31 = .ok (.iload_n 1, 1) := by decide +kernel
theorem dX11_worst_32 : decode cX11_worst 32 = .ok (.iload_n 2, 1) := by decide +kernel
theorem dX11_worst_33 : decode cX11_worst 33 = .ok (.iload_n 3, 1) := by decide +kernel
theorem dX11_worst_34 : decode cX11_worst 34 = .ok (.invokevirtual 507, 3) := by decide +kernel
theorem dX11_worst_37 : decode cX11_worst 37 = .ok (.invokestatic 7, 3) := by decide +kernel
theorem dX11_worst_40 : decode cX11_worst 40 = .ok (.lstore 5, 2) := by decide +kernel
theorem dX11_worst_42 : decode cX11_worst 42 = .ok (.lload 5, 2) := by decide +kernel
theorem dX11_worst_44 : decode cX11_worst 44 = .ok (.aload_n 0, 1) := by decide +kernel
theorem dX11_worst_45 : decode cX11_worst 45 = .ok (.getfield 514, 3) := by decide +kernel
theorem dX11_worst_48 : decode cX11_worst 48 = .ok (.lmul, 1) := by decide +kernel
theorem dX11_worst_49 : decode cX11_worst 49 = .ok (.aload_n 0, 1) := by decide +kernel
theorem dX11_worst_50 : decode cX11_worst 50 = .ok (.getfield 511, 3) := by decide +kernel
theorem dX11_worst_53 : decode cX11_worst 53 = .ok (.aload_n 0, 1) := by decide +kernel
theorem dX11_worst_54 : decode cX11_worst 54 = .ok (.iload 4, 2) := by decide +kernel
theorem dX11_worst_56 : decode cX11_worst 56 = .ok (.invokevirtual 501, 3) := by decide +kernel
theorem dX11_worst_59 : decode cX11_worst 59 = .ok (.i2l, 1) := by decide +kernel
theorem dX11_worst_60 : decode cX11_worst 60 = .ok (.lmul, 1) := by decide +kernel
theorem dX11_worst_61 : decode cX11_worst 61 = .ok (.lcmp, 1) := by decide +kernel
theorem dX11_worst_62 : decode cX11_worst 62 = .ok (.ifCond .le 20, 3) := by decide +kernel
theorem dX11_worst_65 : decode cX11_worst 65 = .ok (.aload_n 0, 1) := by decide +kernel
theorem dX11_worst_66 : decode cX11_worst 66 = .ok (.lload 5, 2) := by decide +kernel
theorem dX11_worst_68 : decode cX11_worst 68 = .ok (.putfield 511, 3) := by decide +kernel
theorem dX11_worst_71 : decode cX11_worst 71 = .ok (.aload_n 0, 1) := by decide +kernel
theorem dX11_worst_72 : decode cX11_worst 72 = .ok (.aload_n 0, 1) := by decide +kernel
theorem dX11_worst_73 : decode cX11_worst 73 = .ok (.iload 4, 2) := by decide +kernel
theorem dX11_worst_75 : decode cX11_worst 75 = .ok (.invokevirtual 501, 3) := by decide +kernel
theorem dX11_worst_78 : decode cX11_worst 78 = .ok (.i2l, 1) := by decide +kernel
theorem dX11_worst_79 : decode cX11_worst 79 = .ok (.putfield 514, 3) := by decide +kernel
theorem dX11_worst_82 : decode cX11_worst 82 = .ok (.iinc 4 1, 3) := by decide +kernel
theorem dX11_worst_85 : decode cX11_worst 85 = .ok (.goto (-72), 3) := by decide +kernel
theorem dX11_worst_88 : decode cX11_worst 88 = .ok (.return_, 1) := by decide +kernel
theorem dX11_minor_0 : decode cX11_minor 0 = .ok (.aload_n 0, 1) := by decide +kernel
theorem dX11_minor_1 : decode cX11_minor 1 = .ok (.getfield 81, 3) := by decide +kernel
theorem dX11_minor_4 : decode cX11_minor 4 = .ok (.iload_n 1, 1) := by decide +kernel
theorem dX11_minor_5 : decode cX11_minor 5 = .ok (.laload, 1) := by decide +kernel
theorem dX11_minor_6 : decode cX11_minor 6 = .ok (.aload_n 0, 1) := by decide +kernel
theorem dX11_minor_7 : decode cX11_minor 7 = .ok (.getfield 81, 3) := by decide +kernel
theorem dX11_minor_10 : decode cX11_minor 10 = .ok (.iconst 4, 1) := by decide +kernel
theorem dX11_minor_11 : decode cX11_minor 11 = .ok (.iload_n 2, 1) := by decide +kernel
theorem dX11_minor_12 : decode cX11_minor 12 = .ok (.iadd, 1) := by decide +kernel
theorem dX11_minor_13 : decode cX11_minor 13 = .ok (.laload, 1) := by decide +kernel
theorem dX11_minor_14 : decode cX11_minor 14 = .ok (.aload_n 0, 1) := by decide +kernel
theorem dX11_minor_15 : decode cX11_minor 15 = .ok (.getfield 81, 3) := by decide +kernel
theorem dX11_minor_18 : decode cX11_minor 18 = .ok (.bipush 8, 2) := by decide +kernel
theorem dX11_minor_20 : decode cX11_minor 20 = .ok (.iload_n 3, 1) := by decide +kernel
theorem dX11_minor_21 : decode cX11_minor 21 = .ok (.iadd, 1) := by decide +kernel
theorem dX11_minor_22 : decode cX11_minor 22 = .ok (.laload, 1) := by decide +kernel
theorem dX11_minor_23 : decode cX11_minor 23 = .ok (.lmul, 1) := by decide +kernel
theorem dX11_minor_24 : decode cX11_minor 24 = .ok (.aload_n 0, 1) := by decide +kernel
theorem dX11_minor_25 : decode cX11_minor 25 = .ok (.getfield 81, 3) := by decide +kernel
theorem dX11_minor_28 : decode cX11_minor 28 = .ok (.iconst 4, 1) := by decide +kernel
theorem dX11_minor_29 : decode cX11_minor 29 = .ok (.iload_n 3, 1) := by decide +kernel
theorem dX11_minor_30 : decode cX11_minor 30 = .ok (.iadd, 1) := by decide +kernel
theorem dX11_minor_31 : decode cX11_minor 31 = .ok (.laload, 1) := by decide +kernel
theorem dX11_minor_32 : decode cX11_minor 32 = .ok (.aload_n 0, 1) := by decide +kernel
theorem dX11_minor_33 : decode cX11_minor 33 = .ok (.getfield 81, 3) := by decide +kernel
theorem dX11_minor_36 : decode cX11_minor 36 = .ok (.bipush 8, 2) := by decide +kernel
theorem dX11_minor_38 : decode cX11_minor 38 = .ok (.iload_n 2, 1) := by decide +kernel
theorem dX11_minor_39 : decode cX11_minor 39 = .ok (.iadd, 1) := by decide +kernel
theorem dX11_minor_40 : decode cX11_minor 40 = .ok (.laload, 1) := by decide +kernel
theorem dX11_minor_41 : decode cX11_minor 41 = .ok (.lmul, 1) := by decide +kernel
theorem dX11_minor_42 : decode cX11_minor 42 = .ok (.lsub, 1) := by decide +kernel
theorem dX11_minor_43 : decode cX11_minor 43 = .ok (.lmul, 1) := by decide +kernel
theorem dX11_minor_44 : decode cX11_minor 44 = .ok (.aload_n 0, 1) := by decide +kernel
theorem dX11_minor_45 : decode cX11_minor 45 = .ok (.getfield 81, 3) := by decide +kernel
theorem dX11_minor_48 : decode cX11_minor 48 = .ok (.iload_n 2, 1) := by decide +kernel
theorem dX11_minor_49 : decode cX11_minor 49 = .ok (.laload, 1) := by decide +kernel
theorem dX11_minor_50 : decode cX11_minor 50 = .ok (.aload_n 0, 1) := by decide +kernel
theorem dX11_minor_51 : decode cX11_minor 51 = .ok (.getfield 81, 3) := by decide +kernel
theorem dX11_minor_54 : decode cX11_minor 54 = .ok (.iconst 4, 1) := by decide +kernel
theorem dX11_minor_55 : decode cX11_minor 55 = .ok (.iload_n 1, 1) := by decide +kernel
theorem dX11_minor_56 : decode cX11_minor 56 = .ok (.iadd, 1) := by decide +kernel
theorem dX11_minor_57 : decode cX11_minor 57 = .ok (.laload, 1) := by decide +kernel
theorem dX11_minor_58 : decode cX11_minor 58 = .ok (.aload_n 0, 1) := by decide +kernel
theorem dX11_minor_59 : decode cX11_minor 59 = .ok (.getfield 81, 3) := by decide +kernel
theorem dX11_minor_62 : decode cX11_minor 62 = .ok (.bipush 8, 2) := by decide +kernel
theorem dX11_minor_64 : decode cX11_minor 64 = .ok (.iload_n 3, 1) := by decide +kernel
theorem dX11_minor_65 : decode cX11_minor 65 = .ok (.iadd, 1) := by decide +kernel
theorem dX11_minor_66 : decode cX11_minor 66 = .ok (.laload, 1) := by decide +kernel
theorem dX11_minor_67 : decode cX11_minor 67 = .ok (.lmul, 1) := by decide +kernel
theorem dX11_minor_68 : decode cX11_minor 68 = .ok (.aload_n 0, 1) := by decide +kernel
theorem dX11_minor_69 : decode cX11_minor 69 = .ok (.getfield 81, 3) := by decide +kernel
theorem dX11_minor_72 : decode cX11_minor 72 = .ok (.iconst 4, 1) := by decide +kernel
theorem dX11_minor_73 : decode cX11_minor 73 = .ok (.iload_n 3, 1) := by decide +kernel
theorem dX11_minor_74 : decode cX11_minor 74 = .ok (.iadd, 1) := by decide +kernel
theorem dX11_minor_75 : decode cX11_minor 75 = .ok (.laload, 1) := by decide +kernel
theorem dX11_minor_76 : decode cX11_minor 76 = .ok (.aload_n 0, 1) := by decide +kernel
theorem dX11_minor_77 : decode cX11_minor 77 = .ok (.getfield 81, 3) := by decide +kernel
theorem dX11_minor_80 : decode cX11_minor 80 = .ok (.bipush 8, 2) := by decide +kernel
theorem dX11_minor_82 : decode cX11_minor 82 = .ok (.iload_n 1, 1) := by decide +kernel
theorem dX11_minor_83 : decode cX11_minor 83 = .ok (.iadd, 1) := by decide +kernel
theorem dX11_minor_84 : decode cX11_minor 84 = .ok (.laload, 1) := by decide +kernel
theorem dX11_minor_85 : decode cX11_minor 85 = .ok (.lmul, 1) := by decide +kernel
theorem dX11_minor_86 : decode cX11_minor 86 = .ok (.lsub, 1) := by decide +kernel
theorem dX11_minor_87 : decode cX11_minor 87 = .ok (.lmul, 1) := by decide +kernel
theorem dX11_minor_88 : decode cX11_minor 88 = .ok (.lsub, 1) := by decide +kernel
theorem dX11_minor_89 : decode cX11_minor 89 = .ok (.aload_n 0, 1) := by decide +kernel
theorem dX11_minor_90 : decode cX11_minor 90 = .ok (.getfield 81, 3) := by decide +kernel
theorem dX11_minor_93 : decode cX11_minor 93 = .ok (.iload_n 3, 1) := by decide +kernel
theorem dX11_minor_94 : decode cX11_minor 94 = .ok (.laload, 1) := by decide +kernel
theorem dX11_minor_95 : decode cX11_minor 95 = .ok (.aload_n 0, 1) := by decide +kernel
theorem dX11_minor_96 : decode cX11_minor 96 = .ok (.getfield 81, 3) := by decide +kernel
theorem dX11_minor_99 : decode cX11_minor 99 = .ok (.iconst 4, 1) := by decide +kernel
theorem dX11_minor_100 : decode cX11_minor 100 = .ok (.iload_n 1, 1) := by decide +kernel
theorem dX11_minor_101 : decode cX11_minor 101 = .ok (.iadd, 1) := by decide +kernel
theorem dX11_minor_102 : decode cX11_minor 102 = .ok (.laload, 1) := by decide +kernel
theorem dX11_minor_103 : decode cX11_minor 103 = .ok (.aload_n 0, 1) := by decide +kernel
theorem dX11_minor_104 : decode cX11_minor 104 = .ok (.getfield 81, 3) := by decide +kernel
theorem dX11_minor_107 : decode cX11_minor 107 = .ok (.bipush 8, 2) := by decide +kernel
theorem dX11_minor_109 : decode cX11_minor 109 = .ok (.iload_n 2, 1) := by decide +kernel
theorem dX11_minor_110 : decode cX11_minor 110 = .ok (.iadd, 1) := by decide +kernel
theorem dX11_minor_111 : decode cX11_minor 111 = .ok (.laload, 1) := by decide +kernel
theorem dX11_minor_112 : decode cX11_minor 112 = .ok (.lmul, 1) := by decide +kernel
theorem dX11_minor_113 : decode cX11_minor 113 = .ok (.aload_n 0, 1) := by decide +kernel
theorem dX11_minor_114 : decode cX11_minor 114 = .ok (.getfield 81, 3) := by decide +kernel
theorem dX11_minor_117 : decode cX11_minor 117 = .ok (.iconst 4, 1) := by decide +kernel
theorem dX11_minor_118 : decode cX11_minor 118 = .ok (.iload_n 2, 1) := by decide +kernel
theorem dX11_minor_119 : decode cX11_minor 119 = .ok (.iadd, 1) := by decide +kernel
theorem dX11_minor_120 : decode cX11_minor 120 = .ok (.laload, 1) := by decide +kernel
theorem dX11_minor_121 : decode cX11_minor 121 = .ok (.aload_n 0, 1) := by decide +kernel
theorem dX11_minor_122 : decode cX11_minor 122 = .ok (.getfield 81, 3) := by decide +kernel
theorem dX11_minor_125 : decode cX11_minor 125 = .ok (.bipush 8, 2) := by decide +kernel
theorem dX11_minor_127 : decode cX11_minor 127 = .ok (.iload_n 1, 1) := by decide +kernel
theorem dX11_minor_128 : decode cX11_minor 128 = .ok (.iadd, 1) := by decide +kernel
theorem dX11_minor_129 : decode cX11_minor 129 = .ok (.laload, 1) := by decide +kernel
theorem dX11_minor_130 : decode cX11_minor 130 = .ok (.lmul, 1) := by decide +kernel
theorem dX11_minor_131 : decode cX11_minor 131 = .ok (.lsub, 1) := by decide +kernel
theorem dX11_minor_132 : decode cX11_minor 132 = .ok (.lmul, 1) := by decide +kernel
theorem dX11_minor_133 : decode cX11_minor 133 = .ok (.ladd, 1) := by decide +kernel
theorem dX11_minor_134 : decode cX11_minor 134 = .ok (.lreturn, 1) := by decide +kernel
theorem dX11_three_0 : decode cX11_three 0 = .ok (.aload_n 0, 1) := by decide +kernel
theorem dX11_three_1 : decode cX11_three 1 = .ok (.invokevirtual 104, 3) := by decide +kernel
theorem dX11_three_4 : decode cX11_three 4 = .ok (.aload_n 0, 1) := by decide +kernel
theorem dX11_three_5 : decode cX11_three 5 = .ok (.getfield 233, 3) := by decide +kernel
theorem dX11_three_8 : decode cX11_three 8 = .ok (.ifCond .eq 12, 3) := by decide +kernel
theorem dX11_three_11 : decode cX11_three 11 = .ok (.iload_n 1, 1) := by decide +kernel
theorem dX11_three_12 : decode cX11_three 12 = .ok (.iconst 0, 1) := by decide +kernel
theorem dX11_three_13 : decode cX11_three 13 = .ok (.iconst 2, 1) := by decide +kernel
theorem dX11_three_14 : decode cX11_three 14 = .ok (.invokestatic 107, 3) := by decide +kernel
theorem dX11_three_17 : decode cX11_three 17 = .ok (.ifCond .ne 9, 3) := by decide +kernel
theorem dX11_three_20 : decode cX11_three 20 = .ok (.aload_n 0, 1) := by decide +kernel
theorem dX11_three_21 : decode cX11_three 21 = .ok (.iconst 1, 1) := by decide +kernel
theorem dX11_three_22 : decode cX11_three 22 = .ok (.invokevirtual 304, 3) := by decide +kernel
theorem dX11_three_25 : decode cX11_three 25 = .ok (.lreturn, 1) := by decide +kernel
theorem dX11_three_26 : decode cX11_three 26 = .ok (.aload_n 0, 1) := by decide +kernel
theorem dX11_three_27 : decode cX11_three 27 = .ok (.getfield 242, 3) := by decide +kernel
theorem dX11_three_30 : decode cX11_three 30 = .ok (.iconst 3, 1) := by decide +kernel
theorem dX11_three_31 : decode cX11_three 31 = .ok (.if_icmp .ge 9, 3) := by decide +kernel
theorem dX11_three_34 : decode cX11_three 34 = .ok (.aload_n 0, 1) := by decide +kernel
theorem dX11_three_35 : decode cX11_three 35 = .ok (.iconst 5, 1) := by decide +kernel
theorem dX11_three_36 : decode cX11_three 36 = .ok (.invokevirtual 304, 3) := by decide +kernel
theorem dX11_three_39 : decode cX11_three 39 = .ok (.lreturn, 1) := by decide +kernel
theorem dX11_three_40 : decode cX11_three 40 = .ok (.iconst 0, 1) := by decide +kernel
theorem dX11_three_41 : decode cX11_three 41 = .ok (.istore_n 3, 1) := by decide +kernel
theorem dX11_three_42 : decode cX11_three 42 = .ok (.iload_n 3, 1) := by decide +kernel
theorem dX11_three_43 : decode cX11_three 43 = .ok (.iconst 3, 1) := by decide +kernel
theorem dX11_three_44 : decode cX11_three 44 = .ok (.if_icmp .ge 88, 3) := by decide +kernel
theorem dX11_three_47 : decode cX11_three 47 = .ok (.aload_n 0, 1) := by decide +kernel
theorem dX11_three_48 : decode cX11_three 48 = .ok (.getfield 81, 3) := by decide +kernel
theorem dX11_three_51 : decode cX11_three 51 = .ok (.iconst 4, 1) := by decide +kernel
theorem dX11_three_52 : decode cX11_three 52 = .ok (.iload_n 3, 1) := by decide +kernel
theorem dX11_three_53 : decode cX11_three 53 = .ok (.imul, 1) := by decide +kernel
theorem dX11_three_54 : decode cX11_three 54 = .ok (.aload_n 0, 1) := by decide +kernel
theorem dX11_three_55 : decode cX11_three 55 = .ok (.iload_n 3, 1) := by decide +kernel
theorem dX11_three_56 : decode cX11_three 56 = .ok (.iconst 2, 1) := by decide +kernel
theorem dX11_three_57 : decode cX11_three 57 = .ok (.invokevirtual 492, 3) := by decide +kernel
theorem dX11_three_60 : decode cX11_three 60 = .ok (.aload_n 0, 1) := by decide +kernel
theorem dX11_three_61 : decode cX11_three 61 = .ok (.iload_n 3, 1) := by decide +kernel
theorem dX11_three_62 : decode cX11_three 62 = .ok (.iconst 0, 1) := by decide +kernel
theorem dX11_three_63 : decode cX11_three 63 = .ok (.invokevirtual 498, 3) := by decide +kernel
theorem dX11_three_66 : decode cX11_three 66 = .ok (.imul, 1) := by decide +kernel
theorem dX11_three_67 : decode cX11_three 67 = .ok (.i2l, 1) := by decide +kernel
theorem dX11_three_68 : decode cX11_three 68 = .ok (.lastore, 1) := by decide +kernel
theorem dX11_three_69 : decode cX11_three 69 = .ok (.aload_n 0, 1) := by decide +kernel
theorem dX11_three_70 : decode cX11_three 70 = .ok (.getfield 81, 3) := by decide +kernel
theorem dX11_three_73 : decode cX11_three 73 = .ok (.iconst 4, 1) := by decide +kernel
theorem dX11_three_74 : decode cX11_three 74 = .ok (.iload_n 3, 1) := by decide +kernel
theorem dX11_three_75 : decode cX11_three 75 = .ok (.imul, 1) := by decide +kernel
theorem dX11_three_76 : decode cX11_three 76 = .ok (.iconst 1, 1) := by decide +kernel
theorem dX11_three_77 : decode cX11_three 77 = .ok (.iadd, 1) := by decide +kernel
theorem dX11_three_78 : decode cX11_three 78 = .ok (.aload_n 0, 1) := by decide +kernel
theorem dX11_three_79 : decode cX11_three 79 = .ok (.iload_n 3, 1) := by decide +kernel
theorem dX11_three_80 : decode cX11_three 80 = .ok (.iconst 0, 1) := by decide +kernel
theorem dX11_three_81 : decode cX11_three 81 = .ok (.invokevirtual 492, 3) := by decide +kernel
theorem dX11_three_84 : decode cX11_three 84 = .ok (.ineg, 1) := by decide +kernel
theorem dX11_three_85 : decode cX11_three 85 = .ok (.aload_n 0, 1) := by decide +kernel
theorem dX11_three_86 : decode cX11_three 86 = .ok (.iload_n 3, 1) := by decide +kernel
theorem dX11_three_87 : decode cX11_three 87 = .ok (.iconst 2, 1) := by decide +kernel
theorem dX11_three_88 : decode cX11_three 88 = .ok (.invokevirtual 498, 3) := by decide +kernel
theorem dX11_three_91 : decode cX11_three 91 = .ok (.imul, 1) := by decide +kernel
theorem dX11_three_92 : decode cX11_three 92 = .ok (.i2l, 1) := by decide +kernel
theorem dX11_three_93 : decode cX11_three 93 = .ok (.lastore, 1) := by decide +kernel
theorem dX11_three_94 : decode cX11_three 94 = .ok (.aload_n 0, 1) := by decide +kernel
theorem dX11_three_95 : decode cX11_three 95 = .ok (.getfield 81, 3) := by decide +kernel
theorem dX11_three_98 : decode cX11_three 98 = .ok (.iconst 4, 1) := by decide +kernel
theorem dX11_three_99 : decode cX11_three 99 = .ok (.iload_n 3, 1) := by decide +kernel
theorem dX11_three_100 : decode cX11_three 100 = .ok (.imul, 1) := by decide +kernel
theorem dX11_three_101 : decode cX11_three 101 = .ok (.iconst 2, 1) := by decide +kernel
theorem dX11_three_102 : decode cX11_three 102 = .ok (.iadd, 1) := by decide +kernel
theorem dX11_three_103 : decode cX11_three 103 = .ok (.aload_n 0, 1) := by decide +kernel
theorem dX11_three_104 : decode cX11_three 104 = .ok (.iload_n 3, 1) := by decide +kernel
theorem dX11_three_105 : decode cX11_three 105 = .ok (.invokevirtual 501, 3) := by decide +kernel
theorem dX11_three_108 : decode cX11_three 108 = .ok (.i2l, 1) := by decide +kernel
theorem dX11_three_109 : decode cX11_three 109 = .ok (.lastore, 1) := by decide +kernel
theorem dX11_three_110 : decode cX11_three 110 = .ok (.aload_n 0, 1) := by decide +kernel
theorem dX11_three_111 : decode cX11_three 111 = .ok (.getfield 81, 3) := by decide +kernel
theorem dX11_three_114 : decode cX11_three 114 = .ok (.iconst 4, 1) := by decide +kernel
theorem dX11_three_115 : decode cX11_three 115 = .ok (.iload_n 3, 1) := by decide +kernel
theorem dX11_three_116 : decode cX11_three 116 = .ok (.imul, 1) := by decide +kernel
theorem dX11_three_117 : decode cX11_three 117 = .ok (.iconst 3, 1) := by decide +kernel
theorem dX11_three_118 : decode cX11_three 118 = .ok (.iadd, 1) := by decide +kernel
theorem dX11_three_119 : decode cX11_three 119 = .ok (.aload_n 0, 1) := by decide +kernel
theorem dX11_three_120 : decode cX11_three 120 = .ok (.iload_n 3, 1) := by decide +kernel
theorem dX11_three_121 : decode cX11_three 121 = .ok (.invokevirtual 504, 3) := by decide +kernel
theorem dX11_three_124 : decode cX11_three 124 = .ok (.i2l, 1) := by decide +kernel
theorem dX11_three_125 : decode cX11_three 125 = .ok (.lastore, 1) := by decide +kernel
theorem dX11_three_126 : decode cX11_three 126 = .ok (.iinc 3 1, 3) := by decide +kernel
theorem dX11_three_129 : decode cX11_three 129 = .ok (.goto (-87), 3) := by decide +kernel
theorem dX11_three_132 : decode cX11_three 132 = .ok (.aload_n 0, 1) := by decide +kernel
theorem dX11_three_133 : decode cX11_three 133 = .ok (.iconst 0, 1) := by decide +kernel
theorem dX11_three_134 : decode cX11_three 134 = .ok (.iconst 1, 1) := by decide +kernel
theorem dX11_three_135 : decode cX11_three 135 = .ok (.iconst 2, 1) := by decide +kernel
theorem dX11_three_136 : decode cX11_three 136 = .ok (.invokevirtual 529, 3) := by decide +kernel
theorem dX11_three_139 : decode cX11_three 139 = .ok (.lstore_n 3, 1) := by decide +kernel
theorem dX11_three_140 : decode cX11_three 140 = .ok (.lload_n 3, 1) := by decide +kernel
theorem dX11_three_141 : decode cX11_three 141 = .ok (.lconst 0, 1) := by decide +kernel
theorem dX11_three_142 : decode cX11_three 142 = .ok (.lcmp, 1) := by decide +kernel
theorem dX11_three_143 : decode cX11_three 143 = .ok (.ifCond .ne 9, 3) := by decide +kernel
theorem dX11_three_146 : decode cX11_three 146 = .ok (.aload_n 0, 1) := by decide +kernel
theorem dX11_three_147 : decode cX11_three 147 = .ok (.iconst 5, 1) := by decide +kernel
theorem dX11_three_148 : decode cX11_three 148 = .ok (.invokevirtual 304, 3) := by decide +kernel
theorem dX11_three_151 : decode cX11_three 151 = .ok (.lreturn, 1) := by decide +kernel
theorem dX11_three_152 : decode cX11_three 152 = .ok (.aload_n 0, 1) := by decide +kernel
theorem dX11_three_153 : decode cX11_three 153 = .ok (.aload_n 0, 1) := by decide +kernel
theorem dX11_three_154 : decode cX11_three 154 = .ok (.iload_n 1, 1) := by decide +kernel
theorem dX11_three_155 : decode cX11_three 155 = .ok (.ifCond .ne 7, 3) := by decide +kernel
theorem dX11_three_158 : decode cX11_three 158 = .ok (.iconst 3, 1) := by decide +kernel
theorem dX11_three_159 : decode cX11_three 159 = .ok (.goto 4, 3) := by decide +kernel
theorem dX11_three_162 : decode cX11_three 162 = .ok (.iconst 0, 1) := by decide +kernel
theorem dX11_three_163 : decode cX11_three 163 = .ok (.iload_n 1, 1) := by decide +kernel
theorem dX11_three_164 : decode cX11_three 164 = .ok (.iconst 1, 1) := by decide +kernel
theorem dX11_three_165 : decode cX11_three 165 = .ok (.if_icmp .ne 7, 3) := by decide +kernel
theorem dX11_three_168 : decode cX11_three 168 = .ok (.iconst 3, 1) := by decide +kernel
theorem dX11_three_169 : decode cX11_three 169 = .ok (.goto 4, 3) := by decide +kernel
theorem dX11_three_172 : decode cX11_three 172 = .ok (.iconst 1, 1) := by decide +kernel
theorem dX11_three_173 : decode cX11_three 173 = .ok (.iload_n 1, 1) := by decide +kernel
theorem dX11_three_174 : decode cX11_three 174 = .ok (.iconst 2, 1) := by decide +kernel
theorem dX11_three_175 : decode cX11_three 175 = .ok (.if_icmp .ne 7, 3) := by decide +kernel
theorem dX11_three_178 : decode cX11_three 178 = .ok (.iconst 3, 1) := by decide +kernel
theorem dX11_three_179 : decode cX11_three 179 = .ok (.goto 4, 3) := by decide +kernel
theorem dX11_three_182 : decode cX11_three 182 = .ok (.iconst 2, 1) := by decide +kernel
theorem dX11_three_183 : decode cX11_three 183 = .ok (.invokevirtual 529, 3) := by decide +kernel
theorem dX11_three_186 : decode cX11_three 186 = .ok (.lload_n 3, 1) := by decide +kernel
theorem dX11_three_187 : decode cX11_three 187 = .ok (.iload_n 2, 1) := by decide +kernel
theorem dX11_three_188 : decode cX11_three 188 = .ok (.invokevirtual 308, 3) := by decide +kernel
theorem dX11_three_191 : decode cX11_three 191 = .ok (.lreturn, 1) := by decide +kernel
theorem dX11_walk_0 : decode cX11_walk 0 = .ok (.aload_n 0, 1) := by decide +kernel
theorem dX11_walk_1 : decode cX11_walk 1 = .ok (.invokevirtual 104, 3) := by decide +kernel
theorem dX11_walk_4 : decode cX11_walk 4 = .ok (.iload_n 1, 1) := by decide +kernel
theorem dX11_walk_5 : decode cX11_walk 5 = .ok (.iconst 0, 1) := by decide +kernel
theorem dX11_walk_6 : decode cX11_walk 6 = .ok (.iconst 3, 1) := by decide +kernel
theorem dX11_walk_7 : decode cX11_walk 7 = .ok (.invokestatic 107, 3) := by decide +kernel
theorem dX11_walk_10 : decode cX11_walk 10 = .ok (.ifCond .ne 9, 3) := by decide +kernel
theorem dX11_walk_13 : decode cX11_walk 13 = .ok (.aload_n 0, 1) := by decide +kernel
theorem dX11_walk_14 : decode cX11_walk 14 = .ok (.iconst 1, 1) := by decide +kernel
theorem dX11_walk_15 : decode cX11_walk 15 = .ok (.invokevirtual 115, 3) := by decide +kernel
theorem dX11_walk_18 : decode cX11_walk 18 = .ok (.ireturn, 1) := by decide +kernel
theorem dX11_walk_19 : decode cX11_walk 19 = .ok (.aload_n 0, 1) := by decide +kernel
theorem dX11_walk_20 : decode cX11_walk 20 = .ok (.getfield 85, 3) := by decide +kernel
theorem dX11_walk_23 : decode cX11_walk 23 = .ok (.iconst (-1), 1) := by decide +kernel
theorem dX11_walk_24 : decode cX11_walk 24 = .ok (.if_icmp .ne 9, 3) := by decide +kernel
theorem dX11_walk_27 : decode cX11_walk 27 = .ok (.aload_n 0, 1) := by decide +kernel
theorem dX11_walk_28 : decode cX11_walk 28 = .ok (.iconst 5, 1) := by decide +kernel
theorem dX11_walk_29 : decode cX11_walk 29 = .ok (.invokevirtual 115, 3) := by decide +kernel
theorem dX11_walk_32 : decode cX11_walk 32 = .ok (.ireturn, 1) := by decide +kernel
theorem dX11_walk_33 : decode cX11_walk 33 = .ok (.iload_n 1, 1) := by decide +kernel
theorem dX11_walk_34 : decode cX11_walk 34 = .ok (.tableswitch 41 0 2 #[26, 31, 36], 26) := by decide +kernel
theorem dX11_walk_60 : decode cX11_walk 60 = .ok (.aload_n 0, 1) := by decide +kernel
theorem dX11_walk_61 : decode cX11_walk 61 = .ok (.getfield 85, 3) := by decide +kernel
theorem dX11_walk_64 : decode cX11_walk 64 = .ok (.ireturn, 1) := by decide +kernel
theorem dX11_walk_65 : decode cX11_walk 65 = .ok (.aload_n 0, 1) := by decide +kernel
theorem dX11_walk_66 : decode cX11_walk 66 = .ok (.getfield 532, 3) := by decide +kernel
theorem dX11_walk_69 : decode cX11_walk 69 = .ok (.ireturn, 1) := by decide +kernel
theorem dX11_walk_70 : decode cX11_walk 70 = .ok (.aload_n 0, 1) := by decide +kernel
theorem dX11_walk_71 : decode cX11_walk 71 = .ok (.getfield 535, 3) := by decide +kernel
theorem dX11_walk_74 : decode cX11_walk 74 = .ok (.ireturn, 1) := by decide +kernel
theorem dX11_walk_75 : decode cX11_walk 75 = .ok (.aload_n 0, 1) := by decide +kernel
theorem dX11_walk_76 : decode cX11_walk 76 = .ok (.getfield 538, 3) := by decide +kernel
theorem dX11_walk_79 : decode cX11_walk 79 = .ok (.ireturn, 1) := by decide +kernel
theorem dX11_nextAngle_0 : decode cX11_nextAngle 0 = .ok (.iload_n 1, 1) := by decide +kernel
theorem dX11_nextAngle_1 : decode cX11_nextAngle 1 = .ok (.iload_n 2, 1) := by decide +kernel
theorem dX11_nextAngle_2 : decode cX11_nextAngle 2 = .ok (.iadd, 1) := by decide +kernel
theorem dX11_nextAngle_3 : decode cX11_nextAngle 3 = .ok (.aload_n 0, 1) := by decide +kernel
theorem dX11_nextAngle_4 : decode cX11_nextAngle 4 = .ok (.getfield 101, 3) := by decide +kernel
theorem dX11_nextAngle_7 : decode cX11_nextAngle 7 = .ok (.iadd, 1) := by decide +kernel
theorem dX11_nextAngle_8 : decode cX11_nextAngle 8 = .ok (.aload_n 0, 1) := by decide +kernel
theorem dX11_nextAngle_9 : decode cX11_nextAngle 9 = .ok (.getfield 101, 3) := by decide +kernel
theorem dX11_nextAngle_12 : decode cX11_nextAngle 12 = .ok (.irem, 1) := by decide +kernel
theorem dX11_nextAngle_13 : decode cX11_nextAngle 13 = .ok (.ireturn, 1) := by decide +kernel
theorem dX11_steps_0 : decode cX11_steps 0 = .ok (.aload_n 0, 1) := by decide +kernel
theorem dX11_steps_1 : decode cX11_steps 1 = .ok (.invokevirtual 104, 3) := by decide +kernel
theorem dX11_steps_4 : decode cX11_steps 4 = .ok (.aload_n 0, 1) := by decide +kernel
theorem dX11_steps_5 : decode cX11_steps 5 = .ok (.getfield 85, 3) := by decide +kernel
theorem dX11_steps_8 : decode cX11_steps 8 = .ok (.iconst (-1), 1) := by decide +kernel
theorem dX11_steps_9 : decode cX11_steps 9 = .ok (.if_icmp .ne 9, 3) := by decide +kernel
theorem dX11_steps_12 : decode cX11_steps 12 = .ok (.aload_n 0, 1) := by decide +kernel
theorem dX11_steps_13 : decode cX11_steps 13 = .ok (.iconst 5, 1) := by decide +kernel
theorem dX11_steps_14 : decode cX11_steps 14 = .ok (.invokevirtual 115, 3) := by decide +kernel
theorem dX11_steps_17 : decode cX11_steps 17 = .ok (.ireturn, 1) := by decide +kernel
theorem dX11_steps_18 : decode cX11_steps 18 = .ok (.iload_n 1, 1) := by decide +kernel
theorem dX11_steps_19 : decode cX11_steps 19 = .ok (.bipush (-100), 2) := by decide +kernel
theorem dX11_steps_21 : decode cX11_steps 21 = .ok (.bipush 100, 2) := by decide +kernel
theorem dX11_steps_23 : decode cX11_steps 23 = .ok (.invokestatic 107, 3) := by decide +kernel
theorem dX11_steps_26 : decode cX11_steps 26 = .ok (.ifCond .ne 9, 3) := by decide +kernel
theorem dX11_steps_29 : decode cX11_steps 29 = .ok (.aload_n 0, 1) := by decide +kernel
theorem dX11_steps_30 : decode cX11_steps 30 = .ok (.iconst 2, 1) := by decide +kernel
theorem dX11_steps_31 : decode cX11_steps 31 = .ok (.invokevirtual 115, 3) := by decide +kernel
theorem dX11_steps_34 : decode cX11_steps 34 = .ok (.ireturn, 1) := by decide +kernel
theorem dX11_steps_35 : decode cX11_steps 35 = .ok (.iconst 0, 1) := by decide +kernel
theorem dX11_steps_36 : decode cX11_steps 36 = .ok (.istore_n 2, 1) := by decide +kernel
theorem dX11_steps_37 : decode cX11_steps 37 = .ok (.iload_n 1, 1) := by decide +kernel
theorem dX11_steps_38 : decode cX11_steps 38 = .ok (.ifCond .ge 7, 3) := by decide +kernel
theorem dX11_steps_41 : decode cX11_steps 41 = .ok (.iconst (-1), 1) := by decide +kernel
theorem dX11_steps_42 : decode cX11_steps 42 = .ok (.goto 4, 3) := by decide +kernel
theorem dX11_steps_45 : decode cX11_steps 45 = .ok (.iconst 1, 1) := by decide +kernel
theorem dX11_steps_46 : decode cX11_steps 46 = .ok (.istore_n 3, 1) := by decide +kernel
theorem dX11_steps_47 : decode cX11_steps 47 = .ok (.iload_n 2, 1) := by decide +kernel
theorem dX11_steps_48 : decode cX11_steps 48 = .ok (.iload_n 3, 1) := by decide +kernel
theorem dX11_steps_49 : decode cX11_steps 49 = .ok (.iload_n 1, 1) := by decide +kernel
theorem dX11_steps_50 : decode cX11_steps 50 = .ok (.imul, 1) := by decide +kernel
theorem dX11_steps_51 : decode cX11_steps 51 = .ok (.if_icmp .ge 42, 3) := by decide +kernel
theorem dX11_steps_54 : decode cX11_steps 54 = .ok (.aload_n 0, 1) := by decide +kernel
theorem dX11_steps_55 : decode cX11_steps 55 = .ok (.aload_n 0, 1) := by decide +kernel
theorem dX11_steps_56 : decode cX11_steps 56 = .ok (.getfield 85, 3) := by decide +kernel
theorem dX11_steps_59 : decode cX11_steps 59 = .ok (.aload_n 0, 1) := by decide +kernel
theorem dX11_steps_60 : decode cX11_steps 60 = .ok (.aload_n 0, 1) := by decide +kernel
theorem dX11_steps_61 : decode cX11_steps 61 = .ok (.getfield 532, 3) := by decide +kernel
theorem dX11_steps_64 : decode cX11_steps 64 = .ok (.iload_n 3, 1) := by decide +kernel
theorem dX11_steps_65 : decode cX11_steps 65 = .ok (.invokevirtual 337, 3) := by decide +kernel
theorem dX11_steps_68 : decode cX11_steps 68 = .ok (.invokevirtual 318, 3) := by decide +kernel
theorem dX11_steps_71 : decode cX11_steps 71 = .ok (.ifCond .eq 22, 3) := by decide +kernel
theorem dX11_steps_74 : decode cX11_steps 74 = .ok (.aload_n 0, 1) := by decide +kernel
theorem dX11_steps_75 : decode cX11_steps 75 = .ok (.aload_n 0, 1) := by decide +kernel
theorem dX11_steps_76 : decode cX11_steps 76 = .ok (.aload_n 0, 1) := by decide +kernel
theorem dX11_steps_77 : decode cX11_steps 77 = .ok (.getfield 532, 3) := by decide +kernel
theorem dX11_steps_80 : decode cX11_steps 80 = .ok (.iload_n 3, 1) := by decide +kernel
theorem dX11_steps_81 : decode cX11_steps 81 = .ok (.invokevirtual 337, 3) := by decide +kernel
theorem dX11_steps_84 : decode cX11_steps 84 = .ok (.putfield 532, 3) := by decide +kernel
theorem dX11_steps_87 : decode cX11_steps 87 = .ok (.iinc 2 1, 3) := by decide +kernel
theorem dX11_steps_90 : decode cX11_steps 90 = .ok (.goto (-43), 3) := by decide +kernel
theorem dX11_steps_93 : decode cX11_steps 93 = .ok (.aload_n 0, 1) := by decide +kernel
theorem dX11_steps_94 : decode cX11_steps 94 = .ok (.dup, 1) := by decide +kernel
theorem dX11_steps_95 : decode cX11_steps 95 = .ok (.getfield 538, 3) := by decide +kernel
theorem dX11_steps_98 : decode cX11_steps 98 = .ok (.iload_n 2, 1) := by decide +kernel
theorem dX11_steps_99 : decode cX11_steps 99 = .ok (.iadd, 1) := by decide +kernel
theorem dX11_steps_100 : decode cX11_steps 100 = .ok (.putfield 538, 3) := by decide +kernel
theorem dX11_steps_103 : decode cX11_steps 103 = .ok (.iload_n 2, 1) := by decide +kernel
theorem dX11_steps_104 : decode cX11_steps 104 = .ok (.ireturn, 1) := by decide +kernel
theorem dX11_meets_0 : decode cX11_meets 0 = .ok (.aload_n 0, 1) := by decide +kernel
theorem dX11_meets_1 : decode cX11_meets 1 = .ok (.getfield 88, 3) := by decide +kernel
theorem dX11_meets_4 : decode cX11_meets 4 = .ok (.iload_n 1, 1) := by decide +kernel
theorem dX11_meets_5 : decode cX11_meets 5 = .ok (.iaload, 1) := by decide +kernel
theorem dX11_meets_6 : decode cX11_meets 6 = .ok (.bipush (-2), 2) := by decide +kernel
theorem dX11_meets_8 : decode cX11_meets 8 = .ok (.if_icmp .ne 17, 3) := by decide +kernel
theorem dX11_meets_11 : decode cX11_meets 11 = .ok (.aload_n 0, 1) := by decide +kernel
theorem dX11_meets_12 : decode cX11_meets 12 = .ok (.aload_n 0, 1) := by decide +kernel
theorem dX11_meets_13 : decode cX11_meets 13 = .ok (.getfield 85, 3) := by decide +kernel
theorem dX11_meets_16 : decode cX11_meets 16 = .ok (.iload_n 1, 1) := by decide +kernel
theorem dX11_meets_17 : decode cX11_meets 17 = .ok (.iconst 2, 1) := by decide +kernel
theorem dX11_meets_18 : decode cX11_meets 18 = .ok (.idiv, 1) := by decide +kernel
theorem dX11_meets_19 : decode cX11_meets 19 = .ok (.invokevirtual 318, 3) := by decide +kernel
theorem dX11_meets_22 : decode cX11_meets 22 = .ok (.ifCond .ne 4, 3) := by decide +kernel
theorem dX11_meets_25 : decode cX11_meets 25 = .ok (.return_, 1) := by decide +kernel
theorem dX11_meets_26 : decode cX11_meets 26 = .ok (.aload_n 0, 1) := by decide +kernel
theorem dX11_meets_27 : decode cX11_meets 27 = .ok (.getfield 88, 3) := by decide +kernel
theorem dX11_meets_30 : decode cX11_meets 30 = .ok (.iload_n 1, 1) := by decide +kernel
theorem dX11_meets_31 : decode cX11_meets 31 = .ok (.iload_n 2, 1) := by decide +kernel
theorem dX11_meets_32 : decode cX11_meets 32 = .ok (.iastore, 1) := by decide +kernel
theorem dX11_meets_33 : decode cX11_meets 33 = .ok (.aload_n 0, 1) := by decide +kernel
theorem dX11_meets_34 : decode cX11_meets 34 = .ok (.getfield 91, 3) := by decide +kernel
theorem dX11_meets_37 : decode cX11_meets 37 = .ok (.aload_n 0, 1) := by decide +kernel
theorem dX11_meets_38 : decode cX11_meets 38 = .ok (.getfield 544, 3) := by decide +kernel
theorem dX11_meets_41 : decode cX11_meets 41 = .ok (.iload_n 1, 1) := by decide +kernel
theorem dX11_meets_42 : decode cX11_meets 42 = .ok (.iastore, 1) := by decide +kernel
theorem dX11_meets_43 : decode cX11_meets 43 = .ok (.aload_n 0, 1) := by decide +kernel
theorem dX11_meets_44 : decode cX11_meets 44 = .ok (.dup, 1) := by decide +kernel
theorem dX11_meets_45 : decode cX11_meets 45 = .ok (.getfield 544, 3) := by decide +kernel
theorem dX11_meets_48 : decode cX11_meets 48 = .ok (.iconst 1, 1) := by decide +kernel
theorem dX11_meets_49 : decode cX11_meets 49 = .ok (.iadd, 1) := by decide +kernel
theorem dX11_meets_50 : decode cX11_meets 50 = .ok (.putfield 544, 3) := by decide +kernel
theorem dX11_meets_53 : decode cX11_meets 53 = .ok (.return_, 1) := by decide +kernel
theorem dX11_reshape_0 : decode cX11_reshape 0 = .ok (.aload_n 0, 1) := by decide +kernel
theorem dX11_reshape_1 : decode cX11_reshape 1 = .ok (.invokevirtual 104, 3) := by decide +kernel
theorem dX11_reshape_4 : decode cX11_reshape 4 = .ok (.aload_n 0, 1) := by decide +kernel
theorem dX11_reshape_5 : decode cX11_reshape 5 = .ok (.iload_n 1, 1) := by decide +kernel
theorem dX11_reshape_6 : decode cX11_reshape 6 = .ok (.invokevirtual 265, 3) := by decide +kernel
theorem dX11_reshape_9 : decode cX11_reshape 9 = .ok (.ifCond .eq 12, 3) := by decide +kernel
theorem dX11_reshape_12 : decode cX11_reshape 12 = .ok (.iload_n 2, 1) := by decide +kernel
theorem dX11_reshape_13 : decode cX11_reshape 13 = .ok (.iconst 0, 1) := by decide +kernel
theorem dX11_reshape_14 : decode cX11_reshape 14 = .ok (.iconst 3, 1) := by decide +kernel
theorem dX11_reshape_15 : decode cX11_reshape 15 = .ok (.invokestatic 107, 3) := by decide +kernel
theorem dX11_reshape_18 : decode cX11_reshape 18 = .ok (.ifCond .ne 9, 3) := by decide +kernel
theorem dX11_reshape_21 : decode cX11_reshape 21 = .ok (.aload_n 0, 1) := by decide +kernel
theorem dX11_reshape_22 : decode cX11_reshape 22 = .ok (.iconst 1, 1) := by decide +kernel
theorem dX11_reshape_23 : decode cX11_reshape 23 = .ok (.invokevirtual 115, 3) := by decide +kernel
theorem dX11_reshape_26 : decode cX11_reshape 26 = .ok (.ireturn, 1) := by decide +kernel
theorem dX11_reshape_27 : decode cX11_reshape 27 = .ok (.iload_n 3, 1) := by decide +kernel
theorem dX11_reshape_28 : decode cX11_reshape 28 = .ok (.iconst 1, 1) := by decide +kernel
theorem dX11_reshape_29 : decode cX11_reshape 29 = .ok (.bipush 18, 2) := by decide +kernel
theorem dX11_reshape_31 : decode cX11_reshape 31 = .ok (.invokestatic 107, 3) := by decide +kernel
theorem dX11_reshape_34 : decode cX11_reshape 34 = .ok (.ifCond .ne 9, 3) := by decide +kernel
theorem dX11_reshape_37 : decode cX11_reshape 37 = .ok (.aload_n 0, 1) := by decide +kernel
theorem dX11_reshape_38 : decode cX11_reshape 38 = .ok (.iconst 2, 1) := by decide +kernel
theorem dX11_reshape_39 : decode cX11_reshape 39 = .ok (.invokevirtual 115, 3) := by decide +kernel
theorem dX11_reshape_42 : decode cX11_reshape 42 = .ok (.ireturn, 1) := by decide +kernel
theorem dX11_reshape_43 : decode cX11_reshape 43 = .ok (.aload_n 0, 1) := by decide +kernel
theorem dX11_reshape_44 : decode cX11_reshape 44 = .ok (.getfield 249, 3) := by decide +kernel
theorem dX11_reshape_47 : decode cX11_reshape 47 = .ok (.bipush 10, 2) := by decide +kernel
theorem dX11_reshape_49 : decode cX11_reshape 49 = .ok (.if_icmp .ne 45, 3) := by decide +kernel
theorem dX11_reshape_52 : decode cX11_reshape 52 = .ok (.iconst 3, 1) := by decide +kernel
theorem dX11_reshape_53 : decode cX11_reshape 53 = .ok (.istore 4, 2) := by decide +kernel
theorem dX11_reshape_55 : decode cX11_reshape 55 = .ok (.iload 4, 2) := by decide +kernel
theorem dX11_reshape_57 : decode cX11_reshape 57 = .ok (.bipush 30, 2) := by decide +kernel
theorem dX11_reshape_59 : decode cX11_reshape 59 = .ok (.if_icmp .ge 25, 3) := by decide +kernel
theorem dX11_reshape_62 : decode cX11_reshape 62 = .ok (.aload_n 0, 1) := by decide +kernel
theorem dX11_reshape_63 : decode cX11_reshape 63 = .ok (.getfield 94, 3) := by decide +kernel
theorem dX11_reshape_66 : decode cX11_reshape 66 = .ok (.iload 4, 2) := by decide +kernel
theorem dX11_reshape_68 : decode cX11_reshape 68 = .ok (.iconst 3, 1) := by decide +kernel
theorem dX11_reshape_69 : decode cX11_reshape 69 = .ok (.isub, 1) := by decide +kernel
theorem dX11_reshape_70 : decode cX11_reshape 70 = .ok (.aload_n 0, 1) := by decide +kernel
theorem dX11_reshape_71 : decode cX11_reshape 71 = .ok (.getfield 94, 3) := by decide +kernel
theorem dX11_reshape_74 : decode cX11_reshape 74 = .ok (.iload 4, 2) := by decide +kernel
theorem dX11_reshape_76 : decode cX11_reshape 76 = .ok (.iaload, 1) := by decide +kernel
theorem dX11_reshape_77 : decode cX11_reshape 77 = .ok (.iastore, 1) := by decide +kernel
theorem dX11_reshape_78 : decode cX11_reshape 78 = .ok (.iinc 4 1, 3) := by decide +kernel
theorem dX11_reshape_81 : decode cX11_reshape 81 = .ok (.goto (-26), 3) := by decide +kernel
theorem dX11_reshape_84 : decode cX11_reshape 84 = .ok (.aload_n 0, 1) := by decide +kernel
theorem dX11_reshape_85 : decode cX11_reshape 85 = .ok (.dup, 1) := by decide +kernel
theorem dX11_reshape_86 : decode cX11_reshape 86 = .ok (.getfield 249, 3) := by decide +kernel
theorem dX11_reshape_89 : decode cX11_reshape 89 = .ok (.iconst 1, 1) := by decide +kernel
theorem dX11_reshape_90 : decode cX11_reshape 90 = .ok (.isub, 1) := by decide +kernel
theorem dX11_reshape_91 : decode cX11_reshape 91 = .ok (.putfield 249, 3) := by decide +kernel
theorem dX11_reshape_94 : decode cX11_reshape 94 = .ok (.aload_n 0, 1) := by decide +kernel
theorem dX11_reshape_95 : decode cX11_reshape 95 = .ok (.iload_n 1, 1) := by decide +kernel
theorem dX11_reshape_96 : decode cX11_reshape 96 = .ok (.iload_n 2, 1) := by decide +kernel
theorem dX11_reshape_97 : decode cX11_reshape 97 = .ok (.invokevirtual 252, 3) := by decide +kernel
theorem dX11_reshape_100 : decode cX11_reshape 100 = .ok (.istore 4, 2) := by decide +kernel
theorem dX11_reshape_102 : decode cX11_reshape 102 = .ok (.aload_n 0, 1) := by decide +kernel
theorem dX11_reshape_103 : decode cX11_reshape 103 = .ok (.getfield 94, 3) := by decide +kernel
theorem dX11_reshape_106 : decode cX11_reshape 106 = .ok (.iconst 3, 1) := by decide +kernel
theorem dX11_reshape_107 : decode cX11_reshape 107 = .ok (.aload_n 0, 1) := by decide +kernel
theorem dX11_reshape_108 : decode cX11_reshape 108 = .ok (.getfield 249, 3) := by decide +kernel
theorem dX11_reshape_111 : decode cX11_reshape 111 = .ok (.imul, 1) := by decide +kernel
theorem dX11_reshape_112 : decode cX11_reshape 112 = .ok (.iload_n 1, 1) := by decide +kernel
theorem dX11_reshape_113 : decode cX11_reshape 113 = .ok (.iastore, 1) := by decide +kernel
theorem dX11_reshape_114 : decode cX11_reshape 114 = .ok (.aload_n 0, 1) := by decide +kernel
theorem dX11_reshape_115 : decode cX11_reshape 115 = .ok (.getfield 94, 3) := by decide +kernel
theorem dX11_reshape_118 : decode cX11_reshape 118 = .ok (.iconst 3, 1) := by decide +kernel
theorem dX11_reshape_119 : decode cX11_reshape 119 = .ok (.aload_n 0, 1) := by decide +kernel
theorem dX11_reshape_120 : decode cX11_reshape 120 = .ok (.getfield 249, 3) := by decide +kernel
theorem dX11_reshape_123 : decode cX11_reshape 123 = .ok (.imul, 1) := by decide +kernel
theorem dX11_reshape_124 : decode cX11_reshape 124 = .ok (.iconst 1, 1) := by decide +kernel
theorem dX11_reshape_125 : decode cX11_reshape 125 = .ok (.iadd, 1) := by decide +kernel
theorem dX11_reshape_126 : decode cX11_reshape 126 = .ok (.iload_n 2, 1) := by decide +kernel
theorem dX11_reshape_127 : decode cX11_reshape 127 = .ok (.iastore, 1) := by decide +kernel
theorem dX11_reshape_128 : decode cX11_reshape 128 = .ok (.aload_n 0, 1) := by decide +kernel
theorem dX11_reshape_129 : decode cX11_reshape 129 = .ok (.getfield 94, 3) := by decide +kernel
theorem dX11_reshape_132 : decode cX11_reshape 132 = .ok (.iconst 3, 1) := by decide +kernel
theorem dX11_reshape_133 : decode cX11_reshape 133 = .ok (.aload_n 0, 1) := by decide +kernel
theorem dX11_reshape_134 : decode cX11_reshape 134 = .ok (.getfield 249, 3) := by decide +kernel
theorem dX11_reshape_137 : decode cX11_reshape 137 = .ok (.imul, 1) := by decide +kernel
theorem dX11_reshape_138 : decode cX11_reshape 138 = .ok (.iconst 2, 1) := by decide +kernel
theorem dX11_reshape_139 : decode cX11_reshape 139 = .ok (.iadd, 1) := by decide +kernel
theorem dX11_reshape_140 : decode cX11_reshape 140 = .ok (.iload 4, 2) := by decide +kernel
theorem dX11_reshape_142 : decode cX11_reshape 142 = .ok (.iastore, 1) := by decide +kernel
theorem dX11_reshape_143 : decode cX11_reshape 143 = .ok (.aload_n 0, 1) := by decide +kernel
theorem dX11_reshape_144 : decode cX11_reshape 144 = .ok (.dup, 1) := by decide +kernel
theorem dX11_reshape_145 : decode cX11_reshape 145 = .ok (.getfield 249, 3) := by decide +kernel
theorem dX11_reshape_148 : decode cX11_reshape 148 = .ok (.iconst 1, 1) := by decide +kernel
theorem dX11_reshape_149 : decode cX11_reshape 149 = .ok (.iadd, 1) := by decide +kernel
theorem dX11_reshape_150 : decode cX11_reshape 150 = .ok (.putfield 249, 3) := by decide +kernel
theorem dX11_reshape_153 : decode cX11_reshape 153 = .ok (.aload_n 0, 1) := by decide +kernel
theorem dX11_reshape_154 : decode cX11_reshape 154 = .ok (.getfield 42, 3) := by decide +kernel
theorem dX11_reshape_157 : decode cX11_reshape 157 = .ok (.iconst 4, 1) := by decide +kernel
theorem dX11_reshape_158 : decode cX11_reshape 158 = .ok (.iload_n 1, 1) := by decide +kernel
theorem dX11_reshape_159 : decode cX11_reshape 159 = .ok (.imul, 1) := by decide +kernel
theorem dX11_reshape_160 : decode cX11_reshape 160 = .ok (.iload_n 2, 1) := by decide +kernel
theorem dX11_reshape_161 : decode cX11_reshape 161 = .ok (.iadd, 1) := by decide +kernel
theorem dX11_reshape_162 : decode cX11_reshape 162 = .ok (.iload_n 3, 1) := by decide +kernel
theorem dX11_reshape_163 : decode cX11_reshape 163 = .ok (.iastore, 1) := by decide +kernel
theorem dX11_reshape_164 : decode cX11_reshape 164 = .ok (.aload_n 0, 1) := by decide +kernel
theorem dX11_reshape_165 : decode cX11_reshape 165 = .ok (.iconst (-1), 1) := by decide +kernel
theorem dX11_reshape_166 : decode cX11_reshape 166 = .ok (.putfield 85, 3) := by decide +kernel
theorem dX11_reshape_169 : decode cX11_reshape 169 = .ok (.iload 4, 2) := by decide +kernel
theorem dX11_reshape_171 : decode cX11_reshape 171 = .ok (.ireturn, 1) := by decide +kernel
theorem dX11_undo_0 : decode cX11_undo 0 = .ok (.aload_n 0, 1) := by decide +kernel
theorem dX11_undo_1 : decode cX11_undo 1 = .ok (.invokevirtual 104, 3) := by decide +kernel
theorem dX11_undo_4 : decode cX11_undo 4 = .ok (.aload_n 0, 1) := by decide +kernel
theorem dX11_undo_5 : decode cX11_undo 5 = .ok (.getfield 249, 3) := by decide +kernel
theorem dX11_undo_8 : decode cX11_undo 8 = .ok (.ifCond .ne 10, 3) := by decide +kernel
theorem dX11_undo_11 : decode cX11_undo 11 = .ok (.aload_n 0, 1) := by decide +kernel
theorem dX11_undo_12 : decode cX11_undo 12 = .ok (.iconst 1, 1) := by decide +kernel
theorem dX11_undo_13 : decode cX11_undo 13 = .ok (.putfield 11, 3) := by decide +kernel
theorem dX11_undo_16 : decode cX11_undo 16 = .ok (.iconst 0, 1) := by decide +kernel
theorem dX11_undo_17 : decode cX11_undo 17 = .ok (.ireturn, 1) := by decide +kernel
theorem dX11_undo_18 : decode cX11_undo 18 = .ok (.aload_n 0, 1) := by decide +kernel
theorem dX11_undo_19 : decode cX11_undo 19 = .ok (.dup, 1) := by decide +kernel
theorem dX11_undo_20 : decode cX11_undo 20 = .ok (.getfield 249, 3) := by decide +kernel
theorem dX11_undo_23 : decode cX11_undo 23 = .ok (.iconst 1, 1) := by decide +kernel
theorem dX11_undo_24 : decode cX11_undo 24 = .ok (.isub, 1) := by decide +kernel
theorem dX11_undo_25 : decode cX11_undo 25 = .ok (.putfield 249, 3) := by decide +kernel
theorem dX11_undo_28 : decode cX11_undo 28 = .ok (.aload_n 0, 1) := by decide +kernel
theorem dX11_undo_29 : decode cX11_undo 29 = .ok (.getfield 42, 3) := by decide +kernel
theorem dX11_undo_32 : decode cX11_undo 32 = .ok (.iconst 4, 1) := by decide +kernel
theorem dX11_undo_33 : decode cX11_undo 33 = .ok (.aload_n 0, 1) := by decide +kernel
theorem dX11_undo_34 : decode cX11_undo 34 = .ok (.getfield 94, 3) := by decide +kernel
theorem dX11_undo_37 : decode cX11_undo 37 = .ok (.iconst 3, 1) := by decide +kernel
theorem dX11_undo_38 : decode cX11_undo 38 = .ok (.aload_n 0, 1) := by decide +kernel
theorem dX11_undo_39 : decode cX11_undo 39 = .ok (.getfield 249, 3) := by decide +kernel
theorem dX11_undo_42 : decode cX11_undo 42 = .ok (.imul, 1) := by decide +kernel
theorem dX11_undo_43 : decode cX11_undo 43 = .ok (.iaload, 1) := by decide +kernel
theorem dX11_undo_44 : decode cX11_undo 44 = .ok (.imul, 1) := by decide +kernel
theorem dX11_undo_45 : decode cX11_undo 45 = .ok (.aload_n 0, 1) := by decide +kernel
theorem dX11_undo_46 : decode cX11_undo 46 = .ok (.getfield 94, 3) := by decide +kernel
theorem dX11_undo_49 : decode cX11_undo 49 = .ok (.iconst 3, 1) := by decide +kernel
theorem dX11_undo_50 : decode cX11_undo 50 = .ok (.aload_n 0, 1) := by decide +kernel
theorem dX11_undo_51 : decode cX11_undo 51 = .ok (.getfield 249, 3) := by decide +kernel
theorem dX11_undo_54 : decode cX11_undo 54 = .ok (.imul, 1) := by decide +kernel
theorem dX11_undo_55 : decode cX11_undo 55 = .ok (.iconst 1, 1) := by decide +kernel
theorem dX11_undo_56 : decode cX11_undo 56 = .ok (.iadd, 1) := by decide +kernel
theorem dX11_undo_57 : decode cX11_undo 57 = .ok (.iaload, 1) := by decide +kernel
theorem dX11_undo_58 : decode cX11_undo 58 = .ok (.iadd, 1) := by decide +kernel
theorem dX11_undo_59 : decode cX11_undo 59 = .ok (.aload_n 0, 1) := by decide +kernel
theorem dX11_undo_60 : decode cX11_undo 60 = .ok (.getfield 94, 3) := by decide +kernel
theorem dX11_undo_63 : decode cX11_undo 63 = .ok (.iconst 3, 1) := by decide +kernel
theorem dX11_undo_64 : decode cX11_undo 64 = .ok (.aload_n 0, 1) := by decide +kernel
theorem dX11_undo_65 : decode cX11_undo 65 = .ok (.getfield 249, 3) := by decide +kernel
theorem dX11_undo_68 : decode cX11_undo 68 = .ok (.imul, 1) := by decide +kernel
theorem dX11_undo_69 : decode cX11_undo 69 = .ok (.iconst 2, 1) := by decide +kernel
theorem dX11_undo_70 : decode cX11_undo 70 = .ok (.iadd, 1) := by decide +kernel
theorem dX11_undo_71 : decode cX11_undo 71 = .ok (.iaload, 1) := by decide +kernel
theorem dX11_undo_72 : decode cX11_undo 72 = .ok (.iastore, 1) := by decide +kernel
theorem dX11_undo_73 : decode cX11_undo 73 = .ok (.aload_n 0, 1) := by decide +kernel
theorem dX11_undo_74 : decode cX11_undo 74 = .ok (.iconst (-1), 1) := by decide +kernel
theorem dX11_undo_75 : decode cX11_undo 75 = .ok (.putfield 85, 3) := by decide +kernel
theorem dX11_undo_78 : decode cX11_undo 78 = .ok (.iconst 1, 1) := by decide +kernel
theorem dX11_undo_79 : decode cX11_undo 79 = .ok (.ireturn, 1) := by decide +kernel
theorem dX11_unbuilt_0 : decode cX11_unbuilt 0 = .ok (.aload_n 0, 1) := by decide +kernel
theorem dX11_unbuilt_1 : decode cX11_unbuilt 1 = .ok (.iconst 0, 1) := by decide +kernel
theorem dX11_unbuilt_2 : decode cX11_unbuilt 2 = .ok (.putfield 1, 3) := by decide +kernel
theorem dX11_unbuilt_5 : decode cX11_unbuilt 5 = .ok (.iconst 0, 1) := by decide +kernel
theorem dX11_unbuilt_6 : decode cX11_unbuilt 6 = .ok (.istore_n 2, 1) := by decide +kernel
theorem dX11_unbuilt_7 : decode cX11_unbuilt 7 = .ok (.iconst 0, 1) := by decide +kernel
theorem dX11_unbuilt_8 : decode cX11_unbuilt 8 = .ok (.istore_n 3, 1) := by decide +kernel
theorem dX11_unbuilt_9 : decode cX11_unbuilt 9 = .ok (.iload_n 3, 1) := by decide +kernel
theorem dX11_unbuilt_10 : decode cX11_unbuilt 10 = .ok (.aload_n 0, 1) := by decide +kernel
theorem dX11_unbuilt_11 : decode cX11_unbuilt 11 = .ok (.getfield 233, 3) := by decide +kernel
theorem dX11_unbuilt_14 : decode cX11_unbuilt 14 = .ok (.if_icmp .ge 27, 3) := by decide +kernel
theorem dX11_unbuilt_17 : decode cX11_unbuilt 17 = .ok (.aload_n 0, 1) := by decide +kernel
theorem dX11_unbuilt_18 : decode cX11_unbuilt 18 = .ok (.iload_n 3, 1) := by decide +kernel
theorem dX11_unbuilt_19 : decode cX11_unbuilt 19 = .ok (.invokevirtual 271, 3) := by decide +kernel
theorem dX11_unbuilt_22 : decode cX11_unbuilt 22 = .ok (.ifCond .ne 13, 3) := by decide +kernel
theorem dX11_unbuilt_25 : decode cX11_unbuilt 25 = .ok (.iload_n 2, 1) := by decide +kernel
theorem dX11_unbuilt_26 : decode cX11_unbuilt 26 = .ok (.iload_n 1, 1) := by decide +kernel
theorem dX11_unbuilt_27 : decode cX11_unbuilt 27 = .ok (.if_icmp .ne 5, 3) := by decide +kernel
theorem dX11_unbuilt_30 : decode cX11_unbuilt 30 = .ok (.iload_n 3, 1) := by decide +kernel
theorem dX11_unbuilt_31 : decode cX11_unbuilt 31 = .ok (.ireturn, 1) := by decide +kernel
theorem dX11_unbuilt_32 : decode cX11_unbuilt 32 = .ok (.iinc 2 1, 3) := by decide +kernel
theorem dX11_unbuilt_35 : decode cX11_unbuilt 35 = .ok (.iinc 3 1, 3) := by decide +kernel
theorem dX11_unbuilt_38 : decode cX11_unbuilt 38 = .ok (.goto (-29), 3) := by decide +kernel
theorem dX11_unbuilt_41 : decode cX11_unbuilt 41 = .ok (.aload_n 0, 1) := by decide +kernel
theorem dX11_unbuilt_42 : decode cX11_unbuilt 42 = .ok (.iconst 1, 1) := by decide +kernel
theorem dX11_unbuilt_43 : decode cX11_unbuilt 43 = .ok (.putfield 1, 3) := by decide +kernel
theorem dX11_unbuilt_46 : decode cX11_unbuilt 46 = .ok (.iconst 0, 1) := by decide +kernel
theorem dX11_unbuilt_47 : decode cX11_unbuilt 47 = .ok (.ireturn, 1) := by decide +kernel
theorem dX11_size_0 : decode cX11_size 0 = .ok (.aload_n 0, 1) := by decide +kernel
theorem dX11_size_1 : decode cX11_size 1 = .ok (.iconst 0, 1) := by decide +kernel
theorem dX11_size_2 : decode cX11_size 2 = .ok (.putfield 1, 3) := by decide +kernel
theorem dX11_size_5 : decode cX11_size 5 = .ok (.iload_n 1, 1) := by decide +kernel
theorem dX11_size_6 : decode cX11_size 6 = .ok (.tableswitch 68 0 5 #[38, 43, 48, 53, 58, 63], 38) := by decide +kernel
theorem dX11_size_44 : decode cX11_size 44 = .ok (.aload_n 0, 1) := by decide +kernel
theorem dX11_size_45 : decode cX11_size 45 = .ok (.getfield 233, 3) := by decide +kernel
theorem dX11_size_48 : decode cX11_size 48 = .ok (.ireturn, 1) := by decide +kernel
theorem dX11_size_49 : decode cX11_size 49 = .ok (.aload_n 0, 1) := by decide +kernel
theorem dX11_size_50 : decode cX11_size 50 = .ok (.getfield 236, 3) := by decide +kernel
theorem dX11_size_53 : decode cX11_size 53 = .ok (.ireturn, 1) := by decide +kernel
theorem dX11_size_54 : decode cX11_size 54 = .ok (.aload_n 0, 1) := by decide +kernel
theorem dX11_size_55 : decode cX11_size 55 = .ok (.getfield 239, 3) := by decide +kernel
theorem dX11_size_58 : decode cX11_size 58 = .ok (.ireturn, 1) := by decide +kernel
theorem dX11_size_59 : decode cX11_size 59 = .ok (.aload_n 0, 1) := by decide +kernel
theorem dX11_size_60 : decode cX11_size 60 = .ok (.getfield 242, 3) := by decide +kernel
theorem dX11_size_63 : decode cX11_size 63 = .ok (.ireturn, 1) := by decide +kernel
theorem dX11_size_64 : decode cX11_size 64 = .ok (.aload_n 0, 1) := by decide +kernel
theorem dX11_size_65 : decode cX11_size 65 = .ok (.getfield 249, 3) := by decide +kernel
theorem dX11_size_68 : decode cX11_size 68 = .ok (.ireturn, 1) := by decide +kernel
theorem dX11_size_69 : decode cX11_size 69 = .ok (.aload_n 0, 1) := by decide +kernel
theorem dX11_size_70 : decode cX11_size 70 = .ok (.getfield 118, 3) := by decide +kernel
theorem dX11_size_73 : decode cX11_size 73 = .ok (.ireturn, 1) := by decide +kernel
theorem dX11_size_74 : decode cX11_size 74 = .ok (.iconst (-1), 1) := by decide +kernel
theorem dX11_size_75 : decode cX11_size 75 = .ok (.ireturn, 1) := by decide +kernel
theorem dX11_trouble_0 : decode cX11_trouble 0 = .ok (.aload_n 0, 1) := by decide +kernel
theorem dX11_trouble_1 : decode cX11_trouble 1 = .ok (.iconst 0, 1) := by decide +kernel
theorem dX11_trouble_2 : decode cX11_trouble 2 = .ok (.putfield 1, 3) := by decide +kernel
theorem dX11_trouble_5 : decode cX11_trouble 5 = .ok (.aload_n 0, 1) := by decide +kernel
theorem dX11_trouble_6 : decode cX11_trouble 6 = .ok (.getfield 11, 3) := by decide +kernel
theorem dX11_trouble_9 : decode cX11_trouble 9 = .ok (.ireturn, 1) := by decide +kernel

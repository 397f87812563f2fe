theorem dX9_bad_0 : decode cX9_bad 0 = .ok (.aload_n 0, 1) := by decide +kernel
theorem dX9_bad_1 : decode cX9_bad 1 = .ok (.getfield 1, 3) := by decide +kernel
theorem dX9_bad_4 : decode cX9_bad 4 = .ok (.iconst 0, 1) := by decide +kernel
theorem dX9_bad_5 : decode cX9_bad 5 = .ok (.dup2, 1) := by decide +kernel
theorem dX9_bad_6 : decode cX9_bad 6 = .ok (.iaload, 1) := by decide +kernel
theorem dX9_bad_7 : decode cX9_bad 7 = .ok (.iconst 1, 1) := by decide +kernel
theorem dX9_bad_8 : decode cX9_bad 8 = .ok (.iadd, 1) := by decide +kernel
theorem dX9_bad_9 : decode cX9_bad 9 = .ok (.iastore, 1) := by decide +kernel
theorem dX9_bad_10 : decode cX9_bad 10 = .ok (.bipush (-2), 2) := by decide +kernel
theorem dX9_bad_12 : decode cX9_bad 12 = .ok (.ireturn, 1) := by decide +kernel
theorem dX9_ten_0 : decode cX9_ten 0 = .ok (.aload_n 0, 1) := by decide +kernel
theorem dX9_ten_1 : decode cX9_ten 1 = .ok (.getfield 1, 3) := by decide +kernel
theorem dX9_ten_4 : decode cX9_ten 4 = .ok (.iconst 0, 1) := by decide +kernel
theorem dX9_ten_5 : decode cX9_ten 5 = .ok (.dup2, 1) := by decide +kernel
theorem dX9_ten_6 : decode cX9_ten 6 = .ok (.iaload, 1) := by decide +kernel
theorem dX9_ten_7 : decode cX9_ten 7 = .ok (.iconst 1, 1) := by decide +kernel
theorem dX9_ten_8 : decode cX9_ten 8 = .ok (.iadd, 1) := by decide +kernel
theorem dX9_ten_9 : decode cX9_ten 9 = .ok (.iastore, 1) := by decide +kernel
theorem dX9_ten_10 : decode cX9_ten 10 = .ok (.bipush (-10), 2) := by decide +kernel
theorem dX9_ten_12 : decode cX9_ten 12 = .ok (.ireturn, 1) := by decide +kernel
theorem dX9_no_0 : decode cX9_no 0 = .ok (.aload_n 0, 1) := by decide +kernel
theorem dX9_no_1 : decode cX9_no 1 = .ok (.getfield 1, 3) := by decide +kernel
theorem dX9_no_4 : decode cX9_no 4 = .ok (.iconst 1, 1) := by decide +kernel
theorem dX9_no_5 : decode cX9_no 5 = .ok (.dup2, 1) := by decide +kernel
theorem dX9_no_6 : decode cX9_no 6 = .ok (.iaload, 1) := by decide +kernel
theorem dX9_no_7 : decode cX9_no 7 = .ok (.iconst 1, 1) := by decide +kernel
theorem dX9_no_8 : decode cX9_no 8 = .ok (.iadd, 1) := by decide +kernel
theorem dX9_no_9 : decode cX9_no 9 = .ok (.iastore, 1) := by decide +kernel
theorem dX9_no_10 : decode cX9_no 10 = .ok (.bipush (-3), 2) := by decide +kernel
theorem dX9_no_12 : decode cX9_no 12 = .ok (.ireturn, 1) := by decide +kernel
theorem dX9_full_0 : decode cX9_full 0 = .ok (.aload_n 0, 1) := by decide +kernel
theorem dX9_full_1 : decode cX9_full 1 = .ok (.getfield 1, 3) := by decide +kernel
theorem dX9_full_4 : decode cX9_full 4 = .ok (.iconst 2, 1) := by decide +kernel
theorem dX9_full_5 : decode cX9_full 5 = .ok (.dup2, 1) := by decide +kernel
theorem dX9_full_6 : decode cX9_full 6 = .ok (.iaload, 1) := by decide +kernel
theorem dX9_full_7 : decode cX9_full 7 = .ok (.iconst 1, 1) := by decide +kernel
theorem dX9_full_8 : decode cX9_full 8 = .ok (.iadd, 1) := by decide +kernel
theorem dX9_full_9 : decode cX9_full 9 = .ok (.iastore, 1) := by decide +kernel
theorem dX9_full_10 : decode cX9_full 10 = .ok (.bipush (-4), 2) := by decide +kernel
theorem dX9_full_12 : decode cX9_full 12 = .ok (.ireturn, 1) := by decide +kernel
theorem dX9_in_0 : decode cX9_in 0 = .ok (.iload_n 0, 1) := by decide +kernel
theorem dX9_in_1 : decode cX9_in 1 = .ok (.iload_n 1, 1) := by decide +kernel
theorem dX9_in_2 : decode cX9_in 2 = .ok (.if_icmp .lt 12, 3) := by decide +kernel
theorem dX9_in_5 : decode cX9_in 5 = .ok (.iload_n 0, 1) := by decide +kernel
theorem dX9_in_6 : decode cX9_in 6 = .ok (.iload_n 2, 1) := by decide +kernel
theorem dX9_in_7 : decode cX9_in 7 = .ok (.if_icmp .gt 7, 3) := by decide +kernel
theorem dX9_in_10 : decode cX9_in 10 = .ok (.iconst 1, 1) := by decide +kernel
theorem dX9_in_11 : decode cX9_in 11 = .ok (.goto 4, 3) := by decide +kernel
theorem dX9_in_14 : decode cX9_in 14 = .ok (.iconst 0, 1) := by decide +kernel
theorem dX9_in_15 : decode cX9_in 15 = .ok (.ireturn, 1) := by decide +kernel
theorem dX9_has_0 : decode cX9_has 0 = .ok (.iload_n 0, 1) := by decide +kernel
theorem dX9_has_1 : decode cX9_has 1 = .ok (.iload_n 1, 1) := by decide +kernel
theorem dX9_has_2 : decode cX9_has 2 = .ok (.ishr, 1) := by decide +kernel
theorem dX9_has_3 : decode cX9_has 3 = .ok (.iconst 1, 1) := by decide +kernel
theorem dX9_has_4 : decode cX9_has 4 = .ok (.iand, 1) := by decide +kernel
theorem dX9_has_5 : decode cX9_has 5 = .ok (.iconst 1, 1) := by decide +kernel
theorem dX9_has_6 : decode cX9_has 6 = .ok (.if_icmp .ne 7, 3) := by decide +kernel
theorem dX9_has_9 : decode cX9_has 9 = .ok (.iconst 1, 1) := by decide +kernel
theorem dX9_has_10 : decode cX9_has 10 = .ok (.goto 4, 3) := by decide +kernel
theorem dX9_has_13 : decode cX9_has 13 = .ok (.iconst 0, 1) := by decide +kernel
theorem dX9_has_14 : decode cX9_has 14 = .ok (.ireturn, 1) := by decide +kernel
theorem dX9_lesser_0 : decode cX9_lesser 0 = .ok (.iload_n 0, 1) := by decide +kernel
theorem dX9_lesser_1 : decode cX9_lesser 1 = .ok (.iload_n 1, 1) := by decide +kernel
theorem dX9_lesser_2 : decode cX9_lesser 2 = .ok (.if_icmp .ge 7, 3) := by decide +kernel
theorem dX9_lesser_5 : decode cX9_lesser 5 = .ok (.iload_n 0, 1) := by decide +kernel
theorem dX9_lesser_6 : decode cX9_lesser 6 = .ok (.goto 4, 3) := by decide +kernel
theorem dX9_lesser_9 : decode cX9_lesser 9 = .ok (.iload_n 1, 1) := by decide +kernel
theorem dX9_lesser_10 : decode cX9_lesser 10 = .ok (.ireturn, 1) := by decide +kernel
theorem dX9_greater_0 : decode cX9_greater 0 = .ok (.iload_n 0, 1) := by decide +kernel
theorem dX9_greater_1 : decode cX9_greater 1 = .ok (.iload_n 1, 1) := by decide +kernel
theorem dX9_greater_2 : decode cX9_greater 2 = .ok (.if_icmp .le 7, 3) := by decide +kernel
theorem dX9_greater_5 : decode cX9_greater 5 = .ok (.iload_n 0, 1) := by decide +kernel
theorem dX9_greater_6 : decode cX9_greater 6 = .ok (.goto 4, 3) := by decide +kernel
theorem dX9_greater_9 : decode cX9_greater 9 = .ok (.iload_n 1, 1) := by decide +kernel
theorem dX9_greater_10 : decode cX9_greater 10 = .ok (.ireturn, 1) := by decide +kernel
theorem dX9_sizeOf_0 : decode cX9_sizeOf 0 = .ok (.iconst 0, 1) := by decide +kernel
theorem dX9_sizeOf_1 : decode cX9_sizeOf 1 = .ok (.istore_n 1, 1) := by decide +kernel
theorem dX9_sizeOf_2 : decode cX9_sizeOf 2 = .ok (.iload_n 0, 1) := by decide +kernel
theorem dX9_sizeOf_3 : decode cX9_sizeOf 3 = .ok (.istore_n 2, 1) := by decide +kernel
theorem dX9_sizeOf_4 : decode cX9_sizeOf 4 = .ok (.iload_n 2, 1) := by decide +kernel
theorem dX9_sizeOf_5 : decode cX9_sizeOf 5 = .ok (.ifCond .le 14, 3) := by decide +kernel
theorem dX9_sizeOf_8 : decode cX9_sizeOf 8 = .ok (.iload_n 2, 1) := by decide +kernel
theorem dX9_sizeOf_9 : decode cX9_sizeOf 9 = .ok (.bipush 10, 2) := by decide +kernel
theorem dX9_sizeOf_11 : decode cX9_sizeOf 11 = .ok (.idiv, 1) := by decide +kernel
theorem dX9_sizeOf_12 : decode cX9_sizeOf 12 = .ok (.istore_n 2, 1) := by decide +kernel
theorem dX9_sizeOf_13 : decode cX9_sizeOf 13 = .ok (.iinc 1 1, 3) := by decide +kernel
theorem dX9_sizeOf_16 : decode cX9_sizeOf 16 = .ok (.goto (-12), 3) := by decide +kernel
theorem dX9_sizeOf_19 : decode cX9_sizeOf 19 = .ok (.iload_n 1, 1) := by decide +kernel
theorem dX9_sizeOf_20 : decode cX9_sizeOf 20 = .ok (.ireturn, 1) := by decide +kernel
theorem dX9_letterOf_0 : decode cX9_letterOf 0 = .ok (.iload_n 0, 1) := by decide +kernel
theorem dX9_letterOf_1 : decode cX9_letterOf 1 = .ok (.invokestatic 7, 3) := by decide +kernel
theorem dX9_letterOf_4 : decode cX9_letterOf 4 = .ok (.istore_n 2, 1) := by decide +kernel
theorem dX9_letterOf_5 : decode cX9_letterOf 5 = .ok (.iload_n 1, 1) := by decide +kernel
theorem dX9_letterOf_6 : decode cX9_letterOf 6 = .ok (.iload_n 2, 1) := by decide +kernel
theorem dX9_letterOf_7 : decode cX9_letterOf 7 = .ok (.if_icmp .lt 5, 3) := by decide +kernel
theorem dX9_letterOf_10 : decode cX9_letterOf 10 = .ok (.iconst 0, 1) := by decide +kernel
theorem dX9_letterOf_11 : decode cX9_letterOf 11 = .ok (.ireturn, 1) := by decide +kernel
theorem dX9_letterOf_12 : decode cX9_letterOf 12 = .ok (.iload_n 0, 1) := by decide +kernel
theorem dX9_letterOf_13 : decode cX9_letterOf 13 = .ok (.istore_n 3, 1) := by decide +kernel
theorem dX9_letterOf_14 : decode cX9_letterOf 14 = .ok (.iload_n 2, 1) := by decide +kernel
theorem dX9_letterOf_15 : decode cX9_letterOf 15 = .ok (.iconst 1, 1) := by decide +kernel
theorem dX9_letterOf_16 : decode cX9_letterOf 16 = .ok (.isub, 1) := by decide +kernel
theorem dX9_letterOf_17 : decode cX9_letterOf 17 = .ok (.istore 4, 2) := by decide +kernel
theorem dX9_letterOf_19 : decode cX9_letterOf 19 = .ok (.iload 4, 2) := by decide +kernel
theorem dX9_letterOf_21 : decode cX9_letterOf 21 = .ok (.iload_n 1, 1) := by decide +kernel
theorem dX9_letterOf_22 : decode cX9_letterOf 22 = .ok (.if_icmp .le 14, 3) := by decide +kernel
theorem dX9_letterOf_25 : decode cX9_letterOf 25 = .ok (.iload_n 3, 1) := by decide +kernel
theorem dX9_letterOf_26 : decode cX9_letterOf 26 = .ok (.bipush 10, 2) := by decide +kernel
theorem dX9_letterOf_28 : decode cX9_letterOf 28 = .ok (.idiv, 1) := by decide +kernel
theorem dX9_letterOf_29 : decode cX9_letterOf 29 = .ok (.istore_n 3, 1) := by decide +kernel
theorem dX9_letterOf_30 : decode cX9_letterOf 30 = .ok (.iinc 4 (-1), 3) := by decide +kernel
theorem dX9_letterOf_33 : decode cX9_letterOf 33 = .ok (.goto (-14), 3) := by decide +kernel
theorem dX9_letterOf_36 : decode cX9_letterOf 36 = .ok (.iload_n 3, 1) := by decide +kernel
theorem dX9_letterOf_37 : decode cX9_letterOf 37 = .ok (.bipush 10, 2) := by decide +kernel
theorem dX9_letterOf_39 : decode cX9_letterOf 39 = .ok (.irem, 1) := by decide +kernel
theorem dX9_letterOf_40 : decode cX9_letterOf 40 = .ok (.ireturn, 1) := by decide +kernel
theorem dX9_isName_0 : decode cX9_isName 0 = .ok (.iload_n 0, 1) := by decide +kernel
theorem dX9_isName_1 : decode cX9_isName 1 = .ok (.invokestatic 7, 3) := by decide +kernel
theorem dX9_isName_4 : decode cX9_isName 4 = .ok (.istore_n 1, 1) := by decide +kernel
theorem dX9_isName_5 : decode cX9_isName 5 = .ok (.iload_n 0, 1) := by decide +kernel
theorem dX9_isName_6 : decode cX9_isName 6 = .ok (.ifCond .le 12, 3) := by decide +kernel
theorem dX9_isName_9 : decode cX9_isName 9 = .ok (.iload_n 1, 1) := by decide +kernel
theorem dX9_isName_10 : decode cX9_isName 10 = .ok (.iconst 5, 1) := by decide +kernel
theorem dX9_isName_11 : decode cX9_isName 11 = .ok (.if_icmp .gt 7, 3) := by decide +kernel
theorem dX9_isName_14 : decode cX9_isName 14 = .ok (.iconst 1, 1) := by decide +kernel
theorem dX9_isName_15 : decode cX9_isName 15 = .ok (.goto 4, 3) := by decide +kernel
theorem dX9_isName_18 : decode cX9_isName 18 = .ok (.iconst 0, 1) := by decide +kernel
theorem dX9_isName_19 : decode cX9_isName 19 = .ok (.istore_n 2, 1) := by decide +kernel
theorem dX9_isName_20 : decode cX9_isName 20 = .ok (.iconst 0, 1) := by decide +kernel
theorem dX9_isName_21 : decode cX9_isName 21 = .ok (.istore_n 3, 1) := by decide +kernel
theorem dX9_isName_22 : decode cX9_isName 22 = .ok (.iload_n 3, 1) := by decide +kernel
theorem dX9_isName_23 : decode cX9_isName 23 = .ok (.iload_n 1, 1) := by decide +kernel
theorem dX9_isName_24 : decode cX9_isName 24 = .ok (.if_icmp .ge 32, 3) := by decide +kernel
theorem dX9_isName_27 : decode cX9_isName 27 = .ok (.iload_n 2, 1) := by decide +kernel
theorem dX9_isName_28 : decode cX9_isName 28 = .ok (.ifCond .eq 20, 3) := by decide +kernel
theorem dX9_isName_31 : decode cX9_isName 31 = .ok (.iload_n 0, 1) := by decide +kernel
theorem dX9_isName_32 : decode cX9_isName 32 = .ok (.iload_n 3, 1) := by decide +kernel
theorem dX9_isName_33 : decode cX9_isName 33 = .ok (.invokestatic 11, 3) := by decide +kernel
theorem dX9_isName_36 : decode cX9_isName 36 = .ok (.iconst 1, 1) := by decide +kernel
theorem dX9_isName_37 : decode cX9_isName 37 = .ok (.iconst 4, 1) := by decide +kernel
theorem dX9_isName_38 : decode cX9_isName 38 = .ok (.invokestatic 15, 3) := by decide +kernel
theorem dX9_isName_41 : decode cX9_isName 41 = .ok (.ifCond .eq 7, 3) := by decide +kernel
theorem dX9_isName_44 : decode cX9_isName 44 = .ok (.iconst 1, 1) := by decide +kernel
theorem dX9_isName_45 : decode cX9_isName 45 = .ok (.goto 4, 3) := by decide +kernel
theorem dX9_isName_48 : decode cX9_isName 48 = .ok (.iconst 0, 1) := by decide +kernel
theorem dX9_isName_49 : decode cX9_isName 49 = .ok (.istore_n 2, 1) := by decide +kernel
theorem dX9_isName_50 : decode cX9_isName 50 = .ok (.iinc 3 1, 3) := by decide +kernel
theorem dX9_isName_53 : decode cX9_isName 53 = .ok (.goto (-31), 3) := by decide +kernel
theorem dX9_isName_56 : decode cX9_isName 56 = .ok (.iload_n 2, 1) := by decide +kernel
theorem dX9_isName_57 : decode cX9_isName 57 = .ok (.ireturn, 1) := by decide +kernel
theorem dX9_plain_0 : decode cX9_plain 0 = .ok (.iconst 0, 1) := by decide +kernel
theorem dX9_plain_1 : decode cX9_plain 1 = .ok (.istore_n 2, 1) := by decide +kernel
theorem dX9_plain_2 : decode cX9_plain 2 = .ok (.iload_n 0, 1) := by decide +kernel
theorem dX9_plain_3 : decode cX9_plain 3 = .ok (.invokestatic 7, 3) := by decide +kernel
theorem dX9_plain_6 : decode cX9_plain 6 = .ok (.istore_n 3, 1) := by decide +kernel
theorem dX9_plain_7 : decode cX9_plain 7 = .ok (.iconst 0, 1) := by decide +kernel
theorem dX9_plain_8 : decode cX9_plain 8 = .ok (.istore 4, 2) := by decide +kernel
theorem dX9_plain_10 : decode cX9_plain 10 = .ok (.iload 4, 2) := by decide +kernel
theorem dX9_plain_12 : decode cX9_plain 12 = .ok (.iload_n 3, 1) := by decide +kernel
theorem dX9_plain_13 : decode cX9_plain 13 = .ok (.if_icmp .ge 64, 3) := by decide +kernel
theorem dX9_plain_16 : decode cX9_plain 16 = .ok (.iload 4, 2) := by decide +kernel
theorem dX9_plain_18 : decode cX9_plain 18 = .ok (.ifCond .le 24, 3) := by decide +kernel
theorem dX9_plain_21 : decode cX9_plain 21 = .ok (.iload_n 0, 1) := by decide +kernel
theorem dX9_plain_22 : decode cX9_plain 22 = .ok (.iload 4, 2) := by decide +kernel
theorem dX9_plain_24 : decode cX9_plain 24 = .ok (.invokestatic 11, 3) := by decide +kernel
theorem dX9_plain_27 : decode cX9_plain 27 = .ok (.iload_n 0, 1) := by decide +kernel
theorem dX9_plain_28 : decode cX9_plain 28 = .ok (.iload 4, 2) := by decide +kernel
theorem dX9_plain_30 : decode cX9_plain 30 = .ok (.iconst 1, 1) := by decide +kernel
theorem dX9_plain_31 : decode cX9_plain 31 = .ok (.isub, 1) := by decide +kernel
theorem dX9_plain_32 : decode cX9_plain 32 = .ok (.invokestatic 11, 3) := by decide +kernel
theorem dX9_plain_35 : decode cX9_plain 35 = .ok (.if_icmp .ne 7, 3) := by decide +kernel
theorem dX9_plain_38 : decode cX9_plain 38 = .ok (.iconst 1, 1) := by decide +kernel
theorem dX9_plain_39 : decode cX9_plain 39 = .ok (.goto 4, 3) := by decide +kernel
theorem dX9_plain_42 : decode cX9_plain 42 = .ok (.iconst 0, 1) := by decide +kernel
theorem dX9_plain_43 : decode cX9_plain 43 = .ok (.istore 5, 2) := by decide +kernel
theorem dX9_plain_45 : decode cX9_plain 45 = .ok (.iload_n 1, 1) := by decide +kernel
theorem dX9_plain_46 : decode cX9_plain 46 = .ok (.iconst 4, 1) := by decide +kernel
theorem dX9_plain_47 : decode cX9_plain 47 = .ok (.if_icmp .le 12, 3) := by decide +kernel
theorem dX9_plain_50 : decode cX9_plain 50 = .ok (.iload 5, 2) := by decide +kernel
theorem dX9_plain_52 : decode cX9_plain 52 = .ok (.ifCond .eq 7, 3) := by decide +kernel
theorem dX9_plain_55 : decode cX9_plain 55 = .ok (.iload_n 2, 1) := by decide +kernel
theorem dX9_plain_56 : decode cX9_plain 56 = .ok (.goto 14, 3) := by decide +kernel
theorem dX9_plain_59 : decode cX9_plain 59 = .ok (.bipush 10, 2) := by decide +kernel
theorem dX9_plain_61 : decode cX9_plain 61 = .ok (.iload_n 2, 1) := by decide +kernel
theorem dX9_plain_62 : decode cX9_plain 62 = .ok (.imul, 1) := by decide +kernel
theorem dX9_plain_63 : decode cX9_plain 63 = .ok (.iload_n 0, 1) := by decide +kernel
theorem dX9_plain_64 : decode cX9_plain 64 = .ok (.iload 4, 2) := by decide +kernel
theorem dX9_plain_66 : decode cX9_plain 66 = .ok (.invokestatic 11, 3) := by decide +kernel
theorem dX9_plain_69 : decode cX9_plain 69 = .ok (.iadd, 1) := by decide +kernel
theorem dX9_plain_70 : decode cX9_plain 70 = .ok (.istore_n 2, 1) := by decide +kernel
theorem dX9_plain_71 : decode cX9_plain 71 = .ok (.iinc 4 1, 3) := by decide +kernel
theorem dX9_plain_74 : decode cX9_plain 74 = .ok (.goto (-64), 3) := by decide +kernel
theorem dX9_plain_77 : decode cX9_plain 77 = .ok (.iload_n 2, 1) := by decide +kernel
theorem dX9_plain_78 : decode cX9_plain 78 = .ok (.ireturn, 1) := by decide +kernel
theorem dX9_worn_0 : decode cX9_worn 0 = .ok (.iload_n 0, 1) := by decide +kernel
theorem dX9_worn_1 : decode cX9_worn 1 = .ok (.iload_n 1, 1) := by decide +kernel
theorem dX9_worn_2 : decode cX9_worn 2 = .ok (.invokestatic 19, 3) := by decide +kernel
theorem dX9_worn_5 : decode cX9_worn 5 = .ok (.istore_n 2, 1) := by decide +kernel
theorem dX9_worn_6 : decode cX9_worn 6 = .ok (.iconst 0, 1) := by decide +kernel
theorem dX9_worn_7 : decode cX9_worn 7 = .ok (.istore_n 3, 1) := by decide +kernel
theorem dX9_worn_8 : decode cX9_worn 8 = .ok (.iload_n 3, 1) := by decide +kernel
theorem dX9_worn_9 : decode cX9_worn 9 = .ok (.iload_n 1, 1) := by decide +kernel
theorem dX9_worn_10 : decode cX9_worn 10 = .ok (.iconst 3, 1) := by decide +kernel
theorem dX9_worn_11 : decode cX9_worn 11 = .ok (.idiv, 1) := by decide +kernel
theorem dX9_worn_12 : decode cX9_worn 12 = .ok (.if_icmp .ge 14, 3) := by decide +kernel
theorem dX9_worn_15 : decode cX9_worn 15 = .ok (.iload_n 2, 1) := by decide +kernel
theorem dX9_worn_16 : decode cX9_worn 16 = .ok (.bipush 10, 2) := by decide +kernel
theorem dX9_worn_18 : decode cX9_worn 18 = .ok (.idiv, 1) := by decide +kernel
theorem dX9_worn_19 : decode cX9_worn 19 = .ok (.istore_n 2, 1) := by decide +kernel
theorem dX9_worn_20 : decode cX9_worn 20 = .ok (.iinc 3 1, 3) := by decide +kernel
theorem dX9_worn_23 : decode cX9_worn 23 = .ok (.goto (-15), 3) := by decide +kernel
theorem dX9_worn_26 : decode cX9_worn 26 = .ok (.iload_n 2, 1) := by decide +kernel
theorem dX9_worn_27 : decode cX9_worn 27 = .ok (.ireturn, 1) := by decide +kernel
theorem dX9_back_0 : decode cX9_back 0 = .ok (.iconst 0, 1) := by decide +kernel
theorem dX9_back_1 : decode cX9_back 1 = .ok (.istore_n 1, 1) := by decide +kernel
theorem dX9_back_2 : decode cX9_back 2 = .ok (.iload_n 0, 1) := by decide +kernel
theorem dX9_back_3 : decode cX9_back 3 = .ok (.invokestatic 7, 3) := by decide +kernel
theorem dX9_back_6 : decode cX9_back 6 = .ok (.istore_n 2, 1) := by decide +kernel
theorem dX9_back_7 : decode cX9_back 7 = .ok (.iload_n 2, 1) := by decide +kernel
theorem dX9_back_8 : decode cX9_back 8 = .ok (.iconst 1, 1) := by decide +kernel
theorem dX9_back_9 : decode cX9_back 9 = .ok (.isub, 1) := by decide +kernel
theorem dX9_back_10 : decode cX9_back 10 = .ok (.istore_n 3, 1) := by decide +kernel
theorem dX9_back_11 : decode cX9_back 11 = .ok (.iload_n 3, 1) := by decide +kernel
theorem dX9_back_12 : decode cX9_back 12 = .ok (.ifCond .lt 20, 3) := by decide +kernel
theorem dX9_back_15 : decode cX9_back 15 = .ok (.bipush 10, 2) := by decide +kernel
theorem dX9_back_17 : decode cX9_back 17 = .ok (.iload_n 1, 1) := by decide +kernel
theorem dX9_back_18 : decode cX9_back 18 = .ok (.imul, 1) := by decide +kernel
theorem dX9_back_19 : decode cX9_back 19 = .ok (.iload_n 0, 1) := by decide +kernel
theorem dX9_back_20 : decode cX9_back 20 = .ok (.iload_n 3, 1) := by decide +kernel
theorem dX9_back_21 : decode cX9_back 21 = .ok (.invokestatic 11, 3) := by decide +kernel
theorem dX9_back_24 : decode cX9_back 24 = .ok (.iadd, 1) := by decide +kernel
theorem dX9_back_25 : decode cX9_back 25 = .ok (.istore_n 1, 1) := by decide +kernel
theorem dX9_back_26 : decode cX9_back 26 = .ok (.iinc 3 (-1), 3) := by decide +kernel
theorem dX9_back_29 : decode cX9_back 29 = .ok (.goto (-18), 3) := by decide +kernel
theorem dX9_back_32 : decode cX9_back 32 = .ok (.iload_n 1, 1) := by decide +kernel
theorem dX9_back_33 : decode cX9_back 33 = .ok (.ireturn, 1) := by decide +kernel
theorem dX9_turned_0 : decode cX9_turned 0 = .ok (.iconst 0, 1) := by decide +kernel
theorem dX9_turned_1 : decode cX9_turned 1 = .ok (.istore_n 3, 1) := by decide +kernel
theorem dX9_turned_2 : decode cX9_turned 2 = .ok (.iload_n 0, 1) := by decide +kernel
theorem dX9_turned_3 : decode cX9_turned 3 = .ok (.invokestatic 7, 3) := by decide +kernel
theorem dX9_turned_6 : decode cX9_turned 6 = .ok (.istore 4, 2) := by decide +kernel
theorem dX9_turned_8 : decode cX9_turned 8 = .ok (.iconst 0, 1) := by decide +kernel
theorem dX9_turned_9 : decode cX9_turned 9 = .ok (.istore 5, 2) := by decide +kernel
theorem dX9_turned_11 : decode cX9_turned 11 = .ok (.iload 5, 2) := by decide +kernel
theorem dX9_turned_13 : decode cX9_turned 13 = .ok (.iload 4, 2) := by decide +kernel
theorem dX9_turned_15 : decode cX9_turned 15 = .ok (.if_icmp .ge 38, 3) := by decide +kernel
theorem dX9_turned_18 : decode cX9_turned 18 = .ok (.iload_n 0, 1) := by decide +kernel
theorem dX9_turned_19 : decode cX9_turned 19 = .ok (.iload 5, 2) := by decide +kernel
theorem dX9_turned_21 : decode cX9_turned 21 = .ok (.iload_n 1, 1) := by decide +kernel
theorem dX9_turned_22 : decode cX9_turned 22 = .ok (.iadd, 1) := by decide +kernel
theorem dX9_turned_23 : decode cX9_turned 23 = .ok (.iload 4, 2) := by decide +kernel
theorem dX9_turned_25 : decode cX9_turned 25 = .ok (.irem, 1) := by decide +kernel
theorem dX9_turned_26 : decode cX9_turned 26 = .ok (.invokestatic 11, 3) := by decide +kernel
theorem dX9_turned_29 : decode cX9_turned 29 = .ok (.istore 6, 2) := by decide +kernel
theorem dX9_turned_31 : decode cX9_turned 31 = .ok (.bipush 10, 2) := by decide +kernel
theorem dX9_turned_33 : decode cX9_turned 33 = .ok (.iload_n 3, 1) := by decide +kernel
theorem dX9_turned_34 : decode cX9_turned 34 = .ok (.imul, 1) := by decide +kernel
theorem dX9_turned_35 : decode cX9_turned 35 = .ok (.iload 6, 2) := by decide +kernel
theorem dX9_turned_37 : decode cX9_turned 37 = .ok (.iconst 1, 1) := by decide +kernel
theorem dX9_turned_38 : decode cX9_turned 38 = .ok (.isub, 1) := by decide +kernel
theorem dX9_turned_39 : decode cX9_turned 39 = .ok (.iload_n 2, 1) := by decide +kernel
theorem dX9_turned_40 : decode cX9_turned 40 = .ok (.iadd, 1) := by decide +kernel
theorem dX9_turned_41 : decode cX9_turned 41 = .ok (.iconst 4, 1) := by decide +kernel
theorem dX9_turned_42 : decode cX9_turned 42 = .ok (.irem, 1) := by decide +kernel
theorem dX9_turned_43 : decode cX9_turned 43 = .ok (.iadd, 1) := by decide +kernel
theorem dX9_turned_44 : decode cX9_turned 44 = .ok (.iconst 1, 1) := by decide +kernel
theorem dX9_turned_45 : decode cX9_turned 45 = .ok (.iadd, 1) := by decide +kernel
theorem dX9_turned_46 : decode cX9_turned 46 = .ok (.istore_n 3, 1) := by decide +kernel
theorem dX9_turned_47 : decode cX9_turned 47 = .ok (.iinc 5 1, 3) := by decide +kernel
theorem dX9_turned_50 : decode cX9_turned 50 = .ok (.goto (-39), 3) := by decide +kernel
theorem dX9_turned_53 : decode cX9_turned 53 = .ok (.iload_n 3, 1) := by decide +kernel
theorem dX9_turned_54 : decode cX9_turned 54 = .ok (.ireturn, 1) := by decide +kernel
theorem dX9_readBy_0 : decode cX9_readBy 0 = .ok (.iload_n 0, 1) := by decide +kernel
theorem dX9_readBy_1 : decode cX9_readBy 1 = .ok (.tableswitch 110 1 5 #[35, 41, 62, 73, 90], 35) := by decide +kernel
theorem dX9_readBy_36 : decode cX9_readBy 36 = .ok (.iload_n 1, 1) := by decide +kernel
theorem dX9_readBy_37 : decode cX9_readBy 37 = .ok (.iload_n 3, 1) := by decide +kernel
theorem dX9_readBy_38 : decode cX9_readBy 38 = .ok (.invokestatic 22, 3) := by decide +kernel
theorem dX9_readBy_41 : decode cX9_readBy 41 = .ok (.ireturn, 1) := by decide +kernel
theorem dX9_readBy_42 : decode cX9_readBy 42 = .ok (.iload_n 2, 1) := by decide +kernel
theorem dX9_readBy_43 : decode cX9_readBy 43 = .ok (.ifCond .ne 14, 3) := by decide +kernel
theorem dX9_readBy_46 : decode cX9_readBy 46 = .ok (.iload_n 1, 1) := by decide +kernel
theorem dX9_readBy_47 : decode cX9_readBy 47 = .ok (.iload_n 3, 1) := by decide +kernel
theorem dX9_readBy_48 : decode cX9_readBy 48 = .ok (.invokestatic 19, 3) := by decide +kernel
theorem dX9_readBy_51 : decode cX9_readBy 51 = .ok (.invokestatic 25, 3) := by decide +kernel
theorem dX9_readBy_54 : decode cX9_readBy 54 = .ok (.goto 8, 3) := by decide +kernel
theorem dX9_readBy_57 : decode cX9_readBy 57 = .ok (.iload_n 1, 1) := by decide +kernel
theorem dX9_readBy_58 : decode cX9_readBy 58 = .ok (.iload_n 3, 1) := by decide +kernel
theorem dX9_readBy_59 : decode cX9_readBy 59 = .ok (.invokestatic 19, 3) := by decide +kernel
theorem dX9_readBy_62 : decode cX9_readBy 62 = .ok (.ireturn, 1) := by decide +kernel
theorem dX9_readBy_63 : decode cX9_readBy 63 = .ok (.iload_n 1, 1) := by decide +kernel
theorem dX9_readBy_64 : decode cX9_readBy 64 = .ok (.iload_n 3, 1) := by decide +kernel
theorem dX9_readBy_65 : decode cX9_readBy 65 = .ok (.invokestatic 19, 3) := by decide +kernel
theorem dX9_readBy_68 : decode cX9_readBy 68 = .ok (.iload_n 2, 1) := by decide +kernel
theorem dX9_readBy_69 : decode cX9_readBy 69 = .ok (.iconst 0, 1) := by decide +kernel
theorem dX9_readBy_70 : decode cX9_readBy 70 = .ok (.invokestatic 28, 3) := by decide +kernel
theorem dX9_readBy_73 : decode cX9_readBy 73 = .ok (.ireturn, 1) := by decide +kernel
theorem dX9_readBy_74 : decode cX9_readBy 74 = .ok (.iload_n 2, 1) := by decide +kernel
theorem dX9_readBy_75 : decode cX9_readBy 75 = .ok (.iconst 2, 1) := by decide +kernel
theorem dX9_readBy_76 : decode cX9_readBy 76 = .ok (.irem, 1) := by decide +kernel
theorem dX9_readBy_77 : decode cX9_readBy 77 = .ok (.iconst 1, 1) := by decide +kernel
theorem dX9_readBy_78 : decode cX9_readBy 78 = .ok (.if_icmp .ne 7, 3) := by decide +kernel
theorem dX9_readBy_81 : decode cX9_readBy 81 = .ok (.iconst 0, 1) := by decide +kernel
theorem dX9_readBy_82 : decode cX9_readBy 82 = .ok (.goto 8, 3) := by decide +kernel
theorem dX9_readBy_85 : decode cX9_readBy 85 = .ok (.iload_n 1, 1) := by decide +kernel
theorem dX9_readBy_86 : decode cX9_readBy 86 = .ok (.iload_n 3, 1) := by decide +kernel
theorem dX9_readBy_87 : decode cX9_readBy 87 = .ok (.invokestatic 22, 3) := by decide +kernel
theorem dX9_readBy_90 : decode cX9_readBy 90 = .ok (.ireturn, 1) := by decide +kernel
theorem dX9_readBy_91 : decode cX9_readBy 91 = .ok (.iload_n 1, 1) := by decide +kernel
theorem dX9_readBy_92 : decode cX9_readBy 92 = .ok (.iload_n 3, 1) := by decide +kernel
theorem dX9_readBy_93 : decode cX9_readBy 93 = .ok (.invokestatic 19, 3) := by decide +kernel
theorem dX9_readBy_96 : decode cX9_readBy 96 = .ok (.iload_n 2, 1) := by decide +kernel
theorem dX9_readBy_97 : decode cX9_readBy 97 = .ok (.iload_n 2, 1) := by decide +kernel
theorem dX9_readBy_98 : decode cX9_readBy 98 = .ok (.iconst 4, 1) := by decide +kernel
theorem dX9_readBy_99 : decode cX9_readBy 99 = .ok (.if_icmp .ge 7, 3) := by decide +kernel
theorem dX9_readBy_102 : decode cX9_readBy 102 = .ok (.iconst 0, 1) := by decide +kernel
theorem dX9_readBy_103 : decode cX9_readBy 103 = .ok (.goto 4, 3) := by decide +kernel
theorem dX9_readBy_106 : decode cX9_readBy 106 = .ok (.iconst 1, 1) := by decide +kernel
theorem dX9_readBy_107 : decode cX9_readBy 107 = .ok (.invokestatic 28, 3) := by decide +kernel
theorem dX9_readBy_110 : decode cX9_readBy 110 = .ok (.ireturn, 1) := by decide +kernel
theorem dX9_readBy_111 : decode cX9_readBy 111 = .ok (.iload_n 1, 1) := by decide +kernel
theorem dX9_readBy_112 : decode cX9_readBy 112 = .ok (.iload_n 3, 1) := by decide +kernel
theorem dX9_readBy_113 : decode cX9_readBy 113 = .ok (.invokestatic 19, 3) := by decide +kernel
theorem dX9_readBy_116 : decode cX9_readBy 116 = .ok (.ireturn, 1) := by decide +kernel
theorem dX9_init_0 : decode cX9_init 0 = .ok (.aload_n 0, 1) := by decide +kernel
theorem dX9_init_1 : decode cX9_init 1 = .ok (.invokespecial 32, 3) := by decide +kernel
theorem dX9_init_4 : decode cX9_init 4 = .ok (.aload_n 0, 1) := by decide +kernel
theorem dX9_init_5 : decode cX9_init 5 = .ok (.iconst 3, 1) := by decide +kernel
theorem dX9_init_6 : decode cX9_init 6 = .ok (.newarray .int, 2) := by decide +kernel
theorem dX9_init_8 : decode cX9_init 8 = .ok (.putfield 1, 3) := by decide +kernel
theorem dX9_init_11 : decode cX9_init 11 = .ok (.aload_n 0, 1) := by decide +kernel
theorem dX9_init_12 : decode cX9_init 12 = .ok (.bipush 6, 2) := by decide +kernel
theorem dX9_init_14 : decode cX9_init 14 = .ok (.newarray .int, 2) := by decide +kernel
theorem dX9_init_16 : decode cX9_init 16 = .ok (.putfield 38, 3) := by decide +kernel
theorem dX9_init_19 : decode cX9_init 19 = .ok (.aload_n 0, 1) := by decide +kernel
theorem dX9_init_20 : decode cX9_init 20 = .ok (.bipush 6, 2) := by decide +kernel
theorem dX9_init_22 : decode cX9_init 22 = .ok (.newarray .int, 2) := by decide +kernel
theorem dX9_init_24 : decode cX9_init 24 = .ok (.putfield 41, 3) := by decide +kernel
theorem dX9_init_27 : decode cX9_init 27 = .ok (.aload_n 0, 1) := by decide +kernel
theorem dX9_init_28 : decode cX9_init 28 = .ok (.bipush 6, 2) := by decide +kernel
theorem dX9_init_30 : decode cX9_init 30 = .ok (.newarray .int, 2) := by decide +kernel
theorem dX9_init_32 : decode cX9_init 32 = .ok (.putfield 44, 3) := by decide +kernel
theorem dX9_init_35 : decode cX9_init 35 = .ok (.aload_n 0, 1) := by decide +kernel
theorem dX9_init_36 : decode cX9_init 36 = .ok (.bipush 6, 2) := by decide +kernel
theorem dX9_init_38 : decode cX9_init 38 = .ok (.newarray .int, 2) := by decide +kernel
theorem dX9_init_40 : decode cX9_init 40 = .ok (.putfield 47, 3) := by decide +kernel
theorem dX9_init_43 : decode cX9_init 43 = .ok (.aload_n 0, 1) := by decide +kernel
theorem dX9_init_44 : decode cX9_init 44 = .ok (.bipush 6, 2) := by decide +kernel
theorem dX9_init_46 : decode cX9_init 46 = .ok (.newarray .int, 2) := by decide +kernel
theorem dX9_init_48 : decode cX9_init 48 = .ok (.putfield 50, 3) := by decide +kernel
theorem dX9_init_51 : decode cX9_init 51 = .ok (.aload_n 0, 1) := by decide +kernel
theorem dX9_init_52 : decode cX9_init 52 = .ok (.bipush 6, 2) := by decide +kernel
theorem dX9_init_54 : decode cX9_init 54 = .ok (.newarray .int, 2) := by decide +kernel
theorem dX9_init_56 : decode cX9_init 56 = .ok (.putfield 53, 3) := by decide +kernel
theorem dX9_init_59 : decode cX9_init 59 = .ok (.aload_n 0, 1) := by decide +kernel
theorem dX9_init_60 : decode cX9_init 60 = .ok (.bipush 6, 2) := by decide +kernel
theorem dX9_init_62 : decode cX9_init 62 = .ok (.newarray .int, 2) := by decide +kernel
theorem dX9_init_64 : decode cX9_init 64 = .ok (.putfield 56, 3) := by decide +kernel
theorem dX9_init_67 : decode cX9_init 67 = .ok (.aload_n 0, 1) := by decide +kernel
theorem dX9_init_68 : decode cX9_init 68 = .ok (.bipush 6, 2) := by decide +kernel
theorem dX9_init_70 : decode cX9_init 70 = .ok (.newarray .int, 2) := by decide +kernel
theorem dX9_init_72 : decode cX9_init 72 = .ok (.putfield 59, 3) := by decide +kernel
theorem dX9_init_75 : decode cX9_init 75 = .ok (.aload_n 0, 1) := by decide +kernel
theorem dX9_init_76 : decode cX9_init 76 = .ok (.sipush 150, 3) := by decide +kernel
theorem dX9_init_79 : decode cX9_init 79 = .ok (.newarray .int, 2) := by decide +kernel
theorem dX9_init_81 : decode cX9_init 81 = .ok (.putfield 62, 3) := by decide +kernel
theorem dX9_init_84 : decode cX9_init 84 = .ok (.aload_n 0, 1) := by decide +kernel
theorem dX9_init_85 : decode cX9_init 85 = .ok (.bipush 24, 2) := by decide +kernel
theorem dX9_init_87 : decode cX9_init 87 = .ok (.newarray .int, 2) := by decide +kernel
theorem dX9_init_89 : decode cX9_init 89 = .ok (.putfield 65, 3) := by decide +kernel
theorem dX9_init_92 : decode cX9_init 92 = .ok (.aload_n 0, 1) := by decide +kernel
theorem dX9_init_93 : decode cX9_init 93 = .ok (.sipush 150, 3) := by decide +kernel
theorem dX9_init_96 : decode cX9_init 96 = .ok (.newarray .int, 2) := by decide +kernel
theorem dX9_init_98 : decode cX9_init 98 = .ok (.putfield 68, 3) := by decide +kernel
theorem dX9_init_101 : decode cX9_init 101 = .ok (.aload_n 0, 1) := by decide +kernel
theorem dX9_init_102 : decode cX9_init 102 = .ok (.bipush 6, 2) := by decide +kernel
theorem dX9_init_104 : decode cX9_init 104 = .ok (.newarray .int, 2) := by decide +kernel
theorem dX9_init_106 : decode cX9_init 106 = .ok (.putfield 71, 3) := by decide +kernel
theorem dX9_init_109 : decode cX9_init 109 = .ok (.aload_n 0, 1) := by decide +kernel
theorem dX9_init_110 : decode cX9_init 110 = .ok (.bipush 6, 2) := by decide +kernel
theorem dX9_init_112 : decode cX9_init 112 = .ok (.newarray .int, 2) := by decide +kernel
theorem dX9_init_114 : decode cX9_init 114 = .ok (.putfield 74, 3) := by decide +kernel
theorem dX9_init_117 : decode cX9_init 117 = .ok (.aload_n 0, 1) := by decide +kernel
theorem dX9_init_118 : decode cX9_init 118 = .ok (.bipush 36, 2) := by decide +kernel
theorem dX9_init_120 : decode cX9_init 120 = .ok (.newarray .int, 2) := by decide +kernel
theorem dX9_init_122 : decode cX9_init 122 = .ok (.putfield 77, 3) := by decide +kernel
theorem dX9_init_125 : decode cX9_init 125 = .ok (.aload_n 0, 1) := by decide +kernel
theorem dX9_init_126 : decode cX9_init 126 = .ok (.lconst 1, 1) := by decide +kernel
theorem dX9_init_127 : decode cX9_init 127 = .ok (.putfield 80, 3) := by decide +kernel
theorem dX9_init_130 : decode cX9_init 130 = .ok (.aload_n 0, 1) := by decide +kernel
theorem dX9_init_131 : decode cX9_init 131 = .ok (.bipush 6, 2) := by decide +kernel
theorem dX9_init_133 : decode cX9_init 133 = .ok (.newarray .int, 2) := by decide +kernel
theorem dX9_init_135 : decode cX9_init 135 = .ok (.putfield 84, 3) := by decide +kernel
theorem dX9_init_138 : decode cX9_init 138 = .ok (.aload_n 0, 1) := by decide +kernel
theorem dX9_init_139 : decode cX9_init 139 = .ok (.sipush 420, 3) := by decide +kernel
theorem dX9_init_142 : decode cX9_init 142 = .ok (.newarray .int, 2) := by decide +kernel
theorem dX9_init_144 : decode cX9_init 144 = .ok (.putfield 87, 3) := by decide +kernel
theorem dX9_init_147 : decode cX9_init 147 = .ok (.aload_n 0, 1) := by decide +kernel
theorem dX9_init_148 : decode cX9_init 148 = .ok (.iconst 2, 1) := by decide +kernel
theorem dX9_init_149 : decode cX9_init 149 = .ok (.newarray .int, 2) := by decide +kernel
theorem dX9_init_151 : decode cX9_init 151 = .ok (.putfield 90, 3) := by decide +kernel
theorem dX9_init_154 : decode cX9_init 154 = .ok (.aload_n 0, 1) := by decide +kernel
theorem dX9_init_155 : decode cX9_init 155 = .ok (.invokevirtual 93, 3) := by decide +kernel
theorem dX9_init_158 : decode cX9_init 158 = .ok (.return_, 1) := by decide +kernel
theorem dX9_begin_0 : decode cX9_begin 0 = .ok (.aload_n 0, 1) := by decide +kernel
theorem dX9_begin_1 : decode cX9_begin 1 = .ok (.iconst 0, 1) := by decide +kernel
theorem dX9_begin_2 : decode cX9_begin 2 = .ok (.putfield 96, 3) := by decide +kernel
theorem dX9_begin_5 : decode cX9_begin 5 = .ok (.aload_n 0, 1) := by decide +kernel
theorem dX9_begin_6 : decode cX9_begin 6 = .ok (.iconst 0, 1) := by decide +kernel
theorem dX9_begin_7 : decode cX9_begin 7 = .ok (.putfield 100, 3) := by decide +kernel
theorem dX9_begin_10 : decode cX9_begin 10 = .ok (.aload_n 0, 1) := by decide +kernel
theorem dX9_begin_11 : decode cX9_begin 11 = .ok (.iconst 0, 1) := by decide +kernel
theorem dX9_begin_12 : decode cX9_begin 12 = .ok (.putfield 103, 3) := by decide +kernel
theorem dX9_begin_15 : decode cX9_begin 15 = .ok (.return_, 1) := by decide +kernel
theorem dX9_isStick_0 : decode cX9_isStick 0 = .ok (.iload_n 1, 1) := by decide +kernel
theorem dX9_isStick_1 : decode cX9_isStick 1 = .ok (.iconst 0, 1) := by decide +kernel
theorem dX9_isStick_2 : decode cX9_isStick 2 = .ok (.aload_n 0, 1) := by decide +kernel
theorem dX9_isStick_3 : decode cX9_isStick 3 = .ok (.getfield 96, 3) := by decide +kernel
theorem dX9_isStick_6 : decode cX9_isStick 6 = .ok (.iconst 1, 1) := by decide +kernel
theorem dX9_isStick_7 : decode cX9_isStick 7 = .ok (.isub, 1) := by decide +kernel
theorem dX9_isStick_8 : decode cX9_isStick 8 = .ok (.invokestatic 15, 3) := by decide +kernel
theorem dX9_isStick_11 : decode cX9_isStick 11 = .ok (.ireturn, 1) := by decide +kernel
theorem dX9_town_0 : decode cX9_town 0 = .ok (.aload_n 0, 1) := by decide +kernel
theorem dX9_town_1 : decode cX9_town 1 = .ok (.getfield 96, 3) := by decide +kernel
theorem dX9_town_4 : decode cX9_town 4 = .ok (.istore_n 1, 1) := by decide +kernel
theorem dX9_town_5 : decode cX9_town 5 = .ok (.aload_n 0, 1) := by decide +kernel
theorem dX9_town_6 : decode cX9_town 6 = .ok (.invokevirtual 93, 3) := by decide +kernel
theorem dX9_town_9 : decode cX9_town 9 = .ok (.iload_n 1, 1) := by decide +kernel
theorem dX9_town_10 : decode cX9_town 10 = .ok (.ireturn, 1) := by decide +kernel
theorem dX9_addStick_0 : decode cX9_addStick 0 = .ok (.aload_n 0, 1) := by decide +kernel
theorem dX9_addStick_1 : decode cX9_addStick 1 = .ok (.getfield 38, 3) := by decide +kernel
theorem dX9_addStick_4 : decode cX9_addStick 4 = .ok (.aload_n 0, 1) := by decide +kernel
theorem dX9_addStick_5 : decode cX9_addStick 5 = .ok (.getfield 96, 3) := by decide +kernel
theorem dX9_addStick_8 : decode cX9_addStick 8 = .ok (.iload_n 1, 1) := by decide +kernel
theorem dX9_addStick_9 : decode cX9_addStick 9 = .ok (.iastore, 1) := by decide +kernel
theorem dX9_addStick_10 : decode cX9_addStick 10 = .ok (.aload_n 0, 1) := by decide +kernel
theorem dX9_addStick_11 : decode cX9_addStick 11 = .ok (.getfield 41, 3) := by decide +kernel
theorem dX9_addStick_14 : decode cX9_addStick 14 = .ok (.aload_n 0, 1) := by decide +kernel
theorem dX9_addStick_15 : decode cX9_addStick 15 = .ok (.getfield 96, 3) := by decide +kernel
theorem dX9_addStick_18 : decode cX9_addStick 18 = .ok (.iload_n 2, 1) := by decide +kernel
theorem dX9_addStick_19 : decode cX9_addStick 19 = .ok (.iastore, 1) := by decide +kernel
theorem dX9_addStick_20 : decode cX9_addStick 20 = .ok (.aload_n 0, 1) := by decide +kernel
theorem dX9_addStick_21 : decode cX9_addStick 21 = .ok (.getfield 44, 3) := by decide +kernel
theorem dX9_addStick_24 : decode cX9_addStick 24 = .ok (.aload_n 0, 1) := by decide +kernel
theorem dX9_addStick_25 : decode cX9_addStick 25 = .ok (.getfield 96, 3) := by decide +kernel
theorem dX9_addStick_28 : decode cX9_addStick 28 = .ok (.iload_n 3, 1) := by decide +kernel
theorem dX9_addStick_29 : decode cX9_addStick 29 = .ok (.iastore, 1) := by decide +kernel
theorem dX9_addStick_30 : decode cX9_addStick 30 = .ok (.aload_n 0, 1) := by decide +kernel
theorem dX9_addStick_31 : decode cX9_addStick 31 = .ok (.getfield 47, 3) := by decide +kernel
theorem dX9_addStick_34 : decode cX9_addStick 34 = .ok (.aload_n 0, 1) := by decide +kernel
theorem dX9_addStick_35 : decode cX9_addStick 35 = .ok (.getfield 96, 3) := by decide +kernel
theorem dX9_addStick_38 : decode cX9_addStick 38 = .ok (.iload 4, 2) := by decide +kernel
theorem dX9_addStick_40 : decode cX9_addStick 40 = .ok (.iastore, 1) := by decide +kernel
theorem dX9_addStick_41 : decode cX9_addStick 41 = .ok (.aload_n 0, 1) := by decide +kernel
theorem dX9_addStick_42 : decode cX9_addStick 42 = .ok (.dup, 1) := by decide +kernel
theorem dX9_addStick_43 : decode cX9_addStick 43 = .ok (.getfield 96, 3) := by decide +kernel
theorem dX9_addStick_46 : decode cX9_addStick 46 = .ok (.iconst 1, 1) := by decide +kernel
theorem dX9_addStick_47 : decode cX9_addStick 47 = .ok (.iadd, 1) := by decide +kernel
theorem dX9_addStick_48 : decode cX9_addStick 48 = .ok (.putfield 96, 3) := by decide +kernel
theorem dX9_addStick_51 : decode cX9_addStick 51 = .ok (.aload_n 0, 1) := by decide +kernel
theorem dX9_addStick_52 : decode cX9_addStick 52 = .ok (.iconst 0, 1) := by decide +kernel
theorem dX9_addStick_53 : decode cX9_addStick 53 = .ok (.putfield 103, 3) := by decide +kernel
theorem dX9_addStick_56 : decode cX9_addStick 56 = .ok (.aload_n 0, 1) := by decide +kernel
theorem dX9_addStick_57 : decode cX9_addStick 57 = .ok (.getfield 96, 3) := by decide +kernel
theorem dX9_addStick_60 : decode cX9_addStick 60 = .ok (.iconst 1, 1) := by decide +kernel
theorem dX9_addStick_61 : decode cX9_addStick 61 = .ok (.isub, 1) := by decide +kernel
theorem dX9_addStick_62 : decode cX9_addStick 62 = .ok (.ireturn, 1) := by decide +kernel
theorem dX9_stick_0 : decode cX9_stick 0 = .ok (.iload_n 1, 1) := by decide +kernel
theorem dX9_stick_1 : decode cX9_stick 1 = .ok (.iconst 0, 1) := by decide +kernel
theorem dX9_stick_2 : decode cX9_stick 2 = .ok (.iconst 5, 1) := by decide +kernel
theorem dX9_stick_3 : decode cX9_stick 3 = .ok (.invokestatic 15, 3) := by decide +kernel
theorem dX9_stick_6 : decode cX9_stick 6 = .ok (.ifCond .eq 20, 3) := by decide +kernel
theorem dX9_stick_9 : decode cX9_stick 9 = .ok (.iload_n 2, 1) := by decide +kernel
theorem dX9_stick_10 : decode cX9_stick 10 = .ok (.invokestatic 106, 3) := by decide +kernel
theorem dX9_stick_13 : decode cX9_stick 13 = .ok (.ifCond .eq 13, 3) := by decide +kernel
theorem dX9_stick_16 : decode cX9_stick 16 = .ok (.iload_n 3, 1) := by decide +kernel
theorem dX9_stick_17 : decode cX9_stick 17 = .ok (.iconst 1, 1) := by decide +kernel
theorem dX9_stick_18 : decode cX9_stick 18 = .ok (.bipush 9, 2) := by decide +kernel
theorem dX9_stick_20 : decode cX9_stick 20 = .ok (.invokestatic 15, 3) := by decide +kernel
theorem dX9_stick_23 : decode cX9_stick 23 = .ok (.ifCond .ne 8, 3) := by decide +kernel
theorem dX9_stick_26 : decode cX9_stick 26 = .ok (.aload_n 0, 1) := by decide +kernel
theorem dX9_stick_27 : decode cX9_stick 27 = .ok (.invokevirtual 110, 3) := by decide +kernel
theorem dX9_stick_30 : decode cX9_stick 30 = .ok (.ireturn, 1) := by decide +kernel
theorem dX9_stick_31 : decode cX9_stick 31 = .ok (.aload_n 0, 1) := by decide +kernel
theorem dX9_stick_32 : decode cX9_stick 32 = .ok (.getfield 96, 3) := by decide +kernel
theorem dX9_stick_35 : decode cX9_stick 35 = .ok (.bipush 6, 2) := by decide +kernel
theorem dX9_stick_37 : decode cX9_stick 37 = .ok (.if_icmp .ne 10, 3) := by decide +kernel
theorem dX9_stick_40 : decode cX9_stick 40 = .ok (.aload_n 0, 1) := by decide +kernel
theorem dX9_stick_41 : decode cX9_stick 41 = .ok (.invokevirtual 114, 3) := by decide +kernel
theorem dX9_stick_44 : decode cX9_stick 44 = .ok (.goto 11, 3) := by decide +kernel
theorem dX9_stick_47 : decode cX9_stick 47 = .ok (.aload_n 0, 1) := by decide +kernel
theorem dX9_stick_48 : decode cX9_stick 48 = .ok (.iload_n 1, 1) := by decide +kernel
theorem dX9_stick_49 : decode cX9_stick 49 = .ok (.iload_n 2, 1) := by decide +kernel
theorem dX9_stick_50 : decode cX9_stick 50 = .ok (.iload_n 3, 1) := by decide +kernel
theorem dX9_stick_51 : decode cX9_stick 51 = .ok (.iconst 0, 1) := by decide +kernel
theorem dX9_stick_52 : decode cX9_stick 52 = .ok (.invokevirtual 117, 3) := by decide +kernel
theorem dX9_stick_55 : decode cX9_stick 55 = .ok (.ireturn, 1) := by decide +kernel
theorem dX9_type_0 : decode cX9_type 0 = .ok (.iload_n 1, 1) := by decide +kernel
theorem dX9_type_1 : decode cX9_type 1 = .ok (.iconst 0, 1) := by decide +kernel
theorem dX9_type_2 : decode cX9_type 2 = .ok (.bipush 127, 2) := by decide +kernel
theorem dX9_type_4 : decode cX9_type 4 = .ok (.invokestatic 15, 3) := by decide +kernel
theorem dX9_type_7 : decode cX9_type 7 = .ok (.ifCond .ne 8, 3) := by decide +kernel
theorem dX9_type_10 : decode cX9_type 10 = .ok (.aload_n 0, 1) := by decide +kernel
theorem dX9_type_11 : decode cX9_type 11 = .ok (.invokevirtual 110, 3) := by decide +kernel
theorem dX9_type_14 : decode cX9_type 14 = .ok (.ireturn, 1) := by decide +kernel
theorem dX9_type_15 : decode cX9_type 15 = .ok (.aload_n 0, 1) := by decide +kernel
theorem dX9_type_16 : decode cX9_type 16 = .ok (.getfield 121, 3) := by decide +kernel
theorem dX9_type_19 : decode cX9_type 19 = .ok (.sipush 150, 3) := by decide +kernel
theorem dX9_type_22 : decode cX9_type 22 = .ok (.if_icmp .ne 8, 3) := by decide +kernel
theorem dX9_type_25 : decode cX9_type 25 = .ok (.aload_n 0, 1) := by decide +kernel
theorem dX9_type_26 : decode cX9_type 26 = .ok (.invokevirtual 114, 3) := by decide +kernel
theorem dX9_type_29 : decode cX9_type 29 = .ok (.ireturn, 1) := by decide +kernel
theorem dX9_type_30 : decode cX9_type 30 = .ok (.aload_n 0, 1) := by decide +kernel
theorem dX9_type_31 : decode cX9_type 31 = .ok (.getfield 62, 3) := by decide +kernel
theorem dX9_type_34 : decode cX9_type 34 = .ok (.aload_n 0, 1) := by decide +kernel
theorem dX9_type_35 : decode cX9_type 35 = .ok (.getfield 121, 3) := by decide +kernel
theorem dX9_type_38 : decode cX9_type 38 = .ok (.iload_n 1, 1) := by decide +kernel
theorem dX9_type_39 : decode cX9_type 39 = .ok (.iastore, 1) := by decide +kernel
theorem dX9_type_40 : decode cX9_type 40 = .ok (.aload_n 0, 1) := by decide +kernel
theorem dX9_type_41 : decode cX9_type 41 = .ok (.dup, 1) := by decide +kernel
theorem dX9_type_42 : decode cX9_type 42 = .ok (.getfield 121, 3) := by decide +kernel
theorem dX9_type_45 : decode cX9_type 45 = .ok (.iconst 1, 1) := by decide +kernel
theorem dX9_type_46 : decode cX9_type 46 = .ok (.iadd, 1) := by decide +kernel
theorem dX9_type_47 : decode cX9_type 47 = .ok (.putfield 121, 3) := by decide +kernel
theorem dX9_type_50 : decode cX9_type 50 = .ok (.aload_n 0, 1) := by decide +kernel
theorem dX9_type_51 : decode cX9_type 51 = .ok (.getfield 121, 3) := by decide +kernel
theorem dX9_type_54 : decode cX9_type 54 = .ok (.ireturn, 1) := by decide +kernel
theorem dX9_clear_0 : decode cX9_clear 0 = .ok (.aload_n 0, 1) := by decide +kernel
theorem dX9_clear_1 : decode cX9_clear 1 = .ok (.getfield 121, 3) := by decide +kernel
theorem dX9_clear_4 : decode cX9_clear 4 = .ok (.istore_n 1, 1) := by decide +kernel
theorem dX9_clear_5 : decode cX9_clear 5 = .ok (.aload_n 0, 1) := by decide +kernel
theorem dX9_clear_6 : decode cX9_clear 6 = .ok (.iconst 0, 1) := by decide +kernel
theorem dX9_clear_7 : decode cX9_clear 7 = .ok (.putfield 121, 3) := by decide +kernel
theorem dX9_clear_10 : decode cX9_clear 10 = .ok (.iload_n 1, 1) := by decide +kernel
theorem dX9_clear_11 : decode cX9_clear 11 = .ok (.ireturn, 1) := by decide +kernel
theorem dX9_here_0 : decode cX9_here 0 = .ok (.aload_n 0, 1) := by decide +kernel
theorem dX9_here_1 : decode cX9_here 1 = .ok (.getfield 124, 3) := by decide +kernel
theorem dX9_here_4 : decode cX9_here 4 = .ok (.aload_n 0, 1) := by decide +kernel
theorem dX9_here_5 : decode cX9_here 5 = .ok (.getfield 121, 3) := by decide +kernel
theorem dX9_here_8 : decode cX9_here 8 = .ok (.if_icmp .ge 15, 3) := by decide +kernel
theorem dX9_here_11 : decode cX9_here 11 = .ok (.aload_n 0, 1) := by decide +kernel
theorem dX9_here_12 : decode cX9_here 12 = .ok (.getfield 62, 3) := by decide +kernel
theorem dX9_here_15 : decode cX9_here 15 = .ok (.aload_n 0, 1) := by decide +kernel
theorem dX9_here_16 : decode cX9_here 16 = .ok (.getfield 124, 3) := by decide +kernel
theorem dX9_here_19 : decode cX9_here 19 = .ok (.iaload, 1) := by decide +kernel
theorem dX9_here_20 : decode cX9_here 20 = .ok (.goto 4, 3) := by decide +kernel
theorem dX9_here_23 : decode cX9_here 23 = .ok (.iconst (-1), 1) := by decide +kernel
theorem dX9_here_24 : decode cX9_here 24 = .ok (.ireturn, 1) := by decide +kernel
theorem dX9_skip_0 : decode cX9_skip 0 = .ok (.aload_n 0, 1) := by decide +kernel
theorem dX9_skip_1 : decode cX9_skip 1 = .ok (.invokevirtual 127, 3) := by decide +kernel
theorem dX9_skip_4 : decode cX9_skip 4 = .ok (.bipush 32, 2) := by decide +kernel
theorem dX9_skip_6 : decode cX9_skip 6 = .ok (.if_icmp .ne 16, 3) := by decide +kernel
theorem dX9_skip_9 : decode cX9_skip 9 = .ok (.aload_n 0, 1) := by decide +kernel
theorem dX9_skip_10 : decode cX9_skip 10 = .ok (.dup, 1) := by decide +kernel
theorem dX9_skip_11 : decode cX9_skip 11 = .ok (.getfield 124, 3) := by decide +kernel
theorem dX9_skip_14 : decode cX9_skip 14 = .ok (.iconst 1, 1) := by decide +kernel
theorem dX9_skip_15 : decode cX9_skip 15 = .ok (.iadd, 1) := by decide +kernel
theorem dX9_skip_16 : decode cX9_skip 16 = .ok (.putfield 124, 3) := by decide +kernel
theorem dX9_skip_19 : decode cX9_skip 19 = .ok (.goto (-19), 3) := by decide +kernel
theorem dX9_skip_22 : decode cX9_skip 22 = .ok (.return_, 1) := by decide +kernel
theorem dX9_isLetter_0 : decode cX9_isLetter 0 = .ok (.iload_n 0, 1) := by decide +kernel
theorem dX9_isLetter_1 : decode cX9_isLetter 1 = .ok (.bipush 97, 2) := by decide +kernel
theorem dX9_isLetter_3 : decode cX9_isLetter 3 = .ok (.bipush 122, 2) := by decide +kernel
theorem dX9_isLetter_5 : decode cX9_isLetter 5 = .ok (.invokestatic 15, 3) := by decide +kernel
theorem dX9_isLetter_8 : decode cX9_isLetter 8 = .ok (.ireturn, 1) := by decide +kernel
theorem dX9_isFigure_0 : decode cX9_isFigure 0 = .ok (.iload_n 0, 1) := by decide +kernel
theorem dX9_isFigure_1 : decode cX9_isFigure 1 = .ok (.bipush 48, 2) := by decide +kernel
theorem dX9_isFigure_3 : decode cX9_isFigure 3 = .ok (.bipush 57, 2) := by decide +kernel
theorem dX9_isFigure_5 : decode cX9_isFigure 5 = .ok (.invokestatic 15, 3) := by decide +kernel
theorem dX9_isFigure_8 : decode cX9_isFigure 8 = .ok (.ireturn, 1) := by decide +kernel
theorem dX9_wordSize_0 : decode cX9_wordSize 0 = .ok (.iconst 0, 1) := by decide +kernel
theorem dX9_wordSize_1 : decode cX9_wordSize 1 = .ok (.istore_n 1, 1) := by decide +kernel
theorem dX9_wordSize_2 : decode cX9_wordSize 2 = .ok (.aload_n 0, 1) := by decide +kernel
theorem dX9_wordSize_3 : decode cX9_wordSize 3 = .ok (.getfield 124, 3) := by decide +kernel
theorem dX9_wordSize_6 : decode cX9_wordSize 6 = .ok (.iload_n 1, 1) := by decide +kernel
theorem dX9_wordSize_7 : decode cX9_wordSize 7 = .ok (.iadd, 1) := by decide +kernel
theorem dX9_wordSize_8 : decode cX9_wordSize 8 = .ok (.aload_n 0, 1) := by decide +kernel
theorem dX9_wordSize_9 : decode cX9_wordSize 9 = .ok (.getfield 121, 3) := by decide +kernel
theorem dX9_wordSize_12 : decode cX9_wordSize 12 = .ok (.if_icmp .ge 26, 3) := by decide +kernel
theorem dX9_wordSize_15 : decode cX9_wordSize 15 = .ok (.aload_n 0, 1) := by decide +kernel
theorem dX9_wordSize_16 : decode cX9_wordSize 16 = .ok (.getfield 62, 3) := by decide +kernel
theorem dX9_wordSize_19 : decode cX9_wordSize 19 = .ok (.aload_n 0, 1) := by decide +kernel
theorem dX9_wordSize_20 : decode cX9_wordSize 20 = .ok (.getfield 124, 3) := by decide +kernel
theorem dX9_wordSize_23 : decode cX9_wordSize 23 = .ok (.iload_n 1, 1) := by decide +kernel
theorem dX9_wordSize_24 : decode cX9_wordSize 24 = .ok (.iadd, 1) := by decide +kernel
theorem dX9_wordSize_25 : decode cX9_wordSize 25 = .ok (.iaload, 1) := by decide +kernel
theorem dX9_wordSize_26 : decode cX9_wordSize 26 = .ok (.invokestatic 130, 3) := by decide +kernel
theorem dX9_wordSize_29 : decode cX9_wordSize 29 = .ok (.ifCond .eq 9, 3) := by decide +kernel
theorem dX9_wordSize_32 : decode cX9_wordSize 32 = .ok (.iinc 1 1, 3) := by decide +kernel
theorem dX9_wordSize_35 : decode cX9_wordSize 35 = .ok (.goto (-33), 3) := by decide +kernel
theorem dX9_wordSize_38 : decode cX9_wordSize 38 = .ok (.iload_n 1, 1) := by decide +kernel
theorem dX9_wordSize_39 : decode cX9_wordSize 39 = .ok (.ireturn, 1) := by decide +kernel
theorem dX9_letter_0 : decode cX9_letter 0 = .ok (.aload_n 0, 1) := by decide +kernel
theorem dX9_letter_1 : decode cX9_letter 1 = .ok (.getfield 62, 3) := by decide +kernel
theorem dX9_letter_4 : decode cX9_letter 4 = .ok (.aload_n 0, 1) := by decide +kernel
theorem dX9_letter_5 : decode cX9_letter 5 = .ok (.getfield 124, 3) := by decide +kernel
theorem dX9_letter_8 : decode cX9_letter 8 = .ok (.iload_n 1, 1) := by decide +kernel
theorem dX9_letter_9 : decode cX9_letter 9 = .ok (.iadd, 1) := by decide +kernel
theorem dX9_letter_10 : decode cX9_letter 10 = .ok (.iaload, 1) := by decide +kernel
theorem dX9_letter_11 : decode cX9_letter 11 = .ok (.ireturn, 1) := by decide +kernel
theorem dX9_wordHere_0 : decode cX9_wordHere 0 = .ok (.aload_n 0, 1) := by decide +kernel
theorem dX9_wordHere_1 : decode cX9_wordHere 1 = .ok (.invokevirtual 133, 3) := by decide +kernel
theorem dX9_wordHere_4 : decode cX9_wordHere 4 = .ok (.istore_n 1, 1) := by decide +kernel
theorem dX9_wordHere_5 : decode cX9_wordHere 5 = .ok (.iload_n 1, 1) := by decide +kernel
theorem dX9_wordHere_6 : decode cX9_wordHere 6 = .ok (.iconst 4, 1) := by decide +kernel
theorem dX9_wordHere_7 : decode cX9_wordHere 7 = .ok (.if_icmp .ne 45, 3) := by decide +kernel
theorem dX9_wordHere_10 : decode cX9_wordHere 10 = .ok (.aload_n 0, 1) := by decide +kernel
theorem dX9_wordHere_11 : decode cX9_wordHere 11 = .ok (.iconst 0, 1) := by decide +kernel
theorem dX9_wordHere_12 : decode cX9_wordHere 12 = .ok (.invokevirtual 136, 3) := by decide +kernel
theorem dX9_wordHere_15 : decode cX9_wordHere 15 = .ok (.bipush 116, 2) := by decide +kernel
theorem dX9_wordHere_17 : decode cX9_wordHere 17 = .ok (.if_icmp .ne 35, 3) := by decide +kernel
theorem dX9_wordHere_20 : decode cX9_wordHere 20 = .ok (.aload_n 0, 1) := by decide +kernel
theorem dX9_wordHere_21 : decode cX9_wordHere 21 = .ok (.iconst 1, 1) := by decide +kernel
theorem dX9_wordHere_22 : decode cX9_wordHere 22 = .ok (.invokevirtual 136, 3) := by decide +kernel
theorem dX9_wordHere_25 : decode cX9_wordHere 25 = .ok (.bipush 111, 2) := by decide +kernel
theorem dX9_wordHere_27 : decode cX9_wordHere 27 = .ok (.if_icmp .ne 25, 3) := by decide +kernel
theorem dX9_wordHere_30 : decode cX9_wordHere 30 = .ok (.aload_n 0, 1) := by decide +kernel
theorem dX9_wordHere_31 : decode cX9_wordHere 31 = .ok (.iconst 2, 1) := by decide +kernel
theorem dX9_wordHere_32 : decode cX9_wordHere 32 = .ok (.invokevirtual 136, 3) := by decide +kernel
theorem dX9_wordHere_35 : decode cX9_wordHere 35 = .ok (.bipush 119, 2) := by decide +kernel
theorem dX9_wordHere_37 : decode cX9_wordHere 37 = .ok (.if_icmp .ne 15, 3) := by decide +kernel
theorem dX9_wordHere_40 : decode cX9_wordHere 40 = .ok (.aload_n 0, 1) := by decide +kernel
theorem dX9_wordHere_41 : decode cX9_wordHere 41 = .ok (.iconst 3, 1) := by decide +kernel
theorem dX9_wordHere_42 : decode cX9_wordHere 42 = .ok (.invokevirtual 136, 3) := by decide +kernel
theorem dX9_wordHere_45 : decode cX9_wordHere 45 = .ok (.bipush 110, 2) := by decide +kernel
theorem dX9_wordHere_47 : decode cX9_wordHere 47 = .ok (.if_icmp .ne 5, 3) := by decide +kernel
theorem dX9_wordHere_50 : decode cX9_wordHere 50 = .ok (.iconst 0, 1) := by decide +kernel
theorem dX9_wordHere_51 : decode cX9_wordHere 51 = .ok (.ireturn, 1) := by decide +kernel
theorem dX9_wordHere_52 : decode cX9_wordHere 52 = .ok (.iload_n 1, 1) := by decide +kernel
theorem dX9_wordHere_53 : decode cX9_wordHere 53 = .ok (.iconst 5, 1) := by decide +kernel
theorem dX9_wordHere_54 : decode cX9_wordHere 54 = .ok (.if_icmp .ne 55, 3) := by decide +kernel
theorem dX9_wordHere_57 : decode cX9_wordHere 57 = .ok (.aload_n 0, 1) := by decide +kernel
theorem dX9_wordHere_58 : decode cX9_wordHere 58 = .ok (.iconst 0, 1) := by decide +kernel
theorem dX9_wordHere_59 : decode cX9_wordHere 59 = .ok (.invokevirtual 136, 3) := by decide +kernel
theorem dX9_wordHere_62 : decode cX9_wordHere 62 = .ok (.bipush 115, 2) := by decide +kernel
theorem dX9_wordHere_64 : decode cX9_wordHere 64 = .ok (.if_icmp .ne 45, 3) := by decide +kernel
theorem dX9_wordHere_67 : decode cX9_wordHere 67 = .ok (.aload_n 0, 1) := by decide +kernel
theorem dX9_wordHere_68 : decode cX9_wordHere 68 = .ok (.iconst 1, 1) := by decide +kernel
theorem dX9_wordHere_69 : decode cX9_wordHere 69 = .ok (.invokevirtual 136, 3) := by decide +kernel
theorem dX9_wordHere_72 : decode cX9_wordHere 72 = .ok (.bipush 116, 2) := by decide +kernel
theorem dX9_wordHere_74 : decode cX9_wordHere 74 = .ok (.if_icmp .ne 35, 3) := by decide +kernel
theorem dX9_wordHere_77 : decode cX9_wordHere 77 = .ok (.aload_n 0, 1) := by decide +kernel
theorem dX9_wordHere_78 : decode cX9_wordHere 78 = .ok (.iconst 2, 1) := by decide +kernel
theorem dX9_wordHere_79 : decode cX9_wordHere 79 = .ok (.invokevirtual 136, 3) := by decide +kernel
theorem dX9_wordHere_82 : decode cX9_wordHere 82 = .ok (.bipush 105, 2) := by decide +kernel
theorem dX9_wordHere_84 : decode cX9_wordHere 84 = .ok (.if_icmp .ne 25, 3) := by decide +kernel
theorem dX9_wordHere_87 : decode cX9_wordHere 87 = .ok (.aload_n 0, 1) := by decide +kernel
theorem dX9_wordHere_88 : decode cX9_wordHere 88 = .ok (.iconst 3, 1) := by decide +kernel
theorem dX9_wordHere_89 : decode cX9_wordHere 89 = .ok (.invokevirtual 136, 3) := by decide +kernel
theorem dX9_wordHere_92 : decode cX9_wordHere 92 = .ok (.bipush 99, 2) := by decide +kernel
theorem dX9_wordHere_94 : decode cX9_wordHere 94 = .ok (.if_icmp .ne 15, 3) := by decide +kernel
theorem dX9_wordHere_97 : decode cX9_wordHere 97 = .ok (.aload_n 0, 1) := by decide +kernel
theorem dX9_wordHere_98 : decode cX9_wordHere 98 = .ok (.iconst 4, 1) := by decide +kernel
theorem dX9_wordHere_99 : decode cX9_wordHere 99 = .ok (.invokevirtual 136, 3) := by decide +kernel
theorem dX9_wordHere_102 : decode cX9_wordHere 102 = .ok (.bipush 107, 2) := by decide +kernel
theorem dX9_wordHere_104 : decode cX9_wordHere 104 = .ok (.if_icmp .ne 5, 3) := by decide +kernel
theorem dX9_wordHere_107 : decode cX9_wordHere 107 = .ok (.iconst 1, 1) := by decide +kernel
theorem dX9_wordHere_108 : decode cX9_wordHere 108 = .ok (.ireturn, 1) := by decide +kernel
theorem dX9_wordHere_109 : decode cX9_wordHere 109 = .ok (.iload_n 1, 1) := by decide +kernel
theorem dX9_wordHere_110 : decode cX9_wordHere 110 = .ok (.iconst 4, 1) := by decide +kernel
theorem dX9_wordHere_111 : decode cX9_wordHere 111 = .ok (.if_icmp .ne 47, 3) := by decide +kernel
theorem dX9_wordHere_114 : decode cX9_wordHere 114 = .ok (.aload_n 0, 1) := by decide +kernel
theorem dX9_wordHere_115 : decode cX9_wordHere 115 = .ok (.iconst 0, 1) := by decide +kernel
theorem dX9_wordHere_116 : decode cX9_wordHere 116 = .ok (.invokevirtual 136, 3) := by decide +kernel
theorem dX9_wordHere_119 : decode cX9_wordHere 119 = .ok (.bipush 115, 2) := by decide +kernel
theorem dX9_wordHere_121 : decode cX9_wordHere 121 = .ok (.if_icmp .ne 37, 3) := by decide +kernel
theorem dX9_wordHere_124 : decode cX9_wordHere 124 = .ok (.aload_n 0, 1) := by decide +kernel
theorem dX9_wordHere_125 : decode cX9_wordHere 125 = .ok (.iconst 1, 1) := by decide +kernel
theorem dX9_wordHere_126 : decode cX9_wordHere 126 = .ok (.invokevirtual 136, 3) := by decide +kernel
theorem dX9_wordHere_129 : decode cX9_wordHere 129 = .ok (.bipush 117, 2) := by decide +kernel
theorem dX9_wordHere_131 : decode cX9_wordHere 131 = .ok (.if_icmp .ne 27, 3) := by decide +kernel
theorem dX9_wordHere_134 : decode cX9_wordHere 134 = .ok (.aload_n 0, 1) := by decide +kernel
theorem dX9_wordHere_135 : decode cX9_wordHere 135 = .ok (.iconst 2, 1) := by decide +kernel
theorem dX9_wordHere_136 : decode cX9_wordHere 136 = .ok (.invokevirtual 136, 3) := by decide +kernel
theorem dX9_wordHere_139 : decode cX9_wordHere 139 = .ok (.bipush 99, 2) := by decide +kernel
theorem dX9_wordHere_141 : decode cX9_wordHere 141 = .ok (.if_icmp .ne 17, 3) := by decide +kernel
theorem dX9_wordHere_144 : decode cX9_wordHere 144 = .ok (.aload_n 0, 1) := by decide +kernel
theorem dX9_wordHere_145 : decode cX9_wordHere 145 = .ok (.iconst 3, 1) := by decide +kernel
theorem dX9_wordHere_146 : decode cX9_wordHere 146 = .ok (.invokevirtual 136, 3) := by decide +kernel
theorem dX9_wordHere_149 : decode cX9_wordHere 149 = .ok (.bipush 107, 2) := by decide +kernel
theorem dX9_wordHere_151 : decode cX9_wordHere 151 = .ok (.if_icmp .ne 7, 3) := by decide +kernel
theorem dX9_wordHere_154 : decode cX9_wordHere 154 = .ok (.iconst 2, 1) := by decide +kernel
theorem dX9_wordHere_155 : decode cX9_wordHere 155 = .ok (.goto 4, 3) := by decide +kernel
theorem dX9_wordHere_158 : decode cX9_wordHere 158 = .ok (.iconst (-1), 1) := by decide +kernel
theorem dX9_wordHere_159 : decode cX9_wordHere 159 = .ok (.ireturn, 1) := by decide +kernel
theorem dX9_number_0 : decode cX9_number 0 = .ok (.aload_n 0, 1) := by decide +kernel
theorem dX9_number_1 : decode cX9_number 1 = .ok (.invokevirtual 139, 3) := by decide +kernel
theorem dX9_number_4 : decode cX9_number 4 = .ok (.iconst 0, 1) := by decide +kernel
theorem dX9_number_5 : decode cX9_number 5 = .ok (.istore_n 3, 1) := by decide +kernel
theorem dX9_number_6 : decode cX9_number 6 = .ok (.iconst 0, 1) := by decide +kernel
theorem dX9_number_7 : decode cX9_number 7 = .ok (.istore 4, 2) := by decide +kernel
theorem dX9_number_9 : decode cX9_number 9 = .ok (.aload_n 0, 1) := by decide +kernel
theorem dX9_number_10 : decode cX9_number 10 = .ok (.getfield 124, 3) := by decide +kernel
theorem dX9_number_13 : decode cX9_number 13 = .ok (.iload_n 3, 1) := by decide +kernel
theorem dX9_number_14 : decode cX9_number 14 = .ok (.iadd, 1) := by decide +kernel
theorem dX9_number_15 : decode cX9_number 15 = .ok (.aload_n 0, 1) := by decide +kernel
theorem dX9_number_16 : decode cX9_number 16 = .ok (.getfield 121, 3) := by decide +kernel
theorem dX9_number_19 : decode cX9_number 19 = .ok (.if_icmp .ge 58, 3) := by decide +kernel
theorem dX9_number_22 : decode cX9_number 22 = .ok (.aload_n 0, 1) := by decide +kernel
theorem dX9_number_23 : decode cX9_number 23 = .ok (.getfield 62, 3) := by decide +kernel
theorem dX9_number_26 : decode cX9_number 26 = .ok (.aload_n 0, 1) := by decide +kernel
theorem dX9_number_27 : decode cX9_number 27 = .ok (.getfield 124, 3) := by decide +kernel
theorem dX9_number_30 : decode cX9_number 30 = .ok (.iload_n 3, 1) := by decide +kernel
theorem dX9_number_31 : decode cX9_number 31 = .ok (.iadd, 1) := by decide +kernel
theorem dX9_number_32 : decode cX9_number 32 = .ok (.iaload, 1) := by decide +kernel
theorem dX9_number_33 : decode cX9_number 33 = .ok (.invokestatic 142, 3) := by decide +kernel
theorem dX9_number_36 : decode cX9_number 36 = .ok (.ifCond .eq 41, 3) := by decide +kernel
theorem dX9_number_39 : decode cX9_number 39 = .ok (.iload_n 3, 1) := by decide +kernel
theorem dX9_number_40 : decode cX9_number 40 = .ok (.iconst 2, 1) := by decide +kernel
theorem dX9_number_41 : decode cX9_number 41 = .ok (.if_icmp .ge 26, 3) := by decide +kernel
theorem dX9_number_44 : decode cX9_number 44 = .ok (.bipush 10, 2) := by decide +kernel
theorem dX9_number_46 : decode cX9_number 46 = .ok (.iload 4, 2) := by decide +kernel
theorem dX9_number_48 : decode cX9_number 48 = .ok (.imul, 1) := by decide +kernel
theorem dX9_number_49 : decode cX9_number 49 = .ok (.aload_n 0, 1) := by decide +kernel
theorem dX9_number_50 : decode cX9_number 50 = .ok (.getfield 62, 3) := by decide +kernel
theorem dX9_number_53 : decode cX9_number 53 = .ok (.aload_n 0, 1) := by decide +kernel
theorem dX9_number_54 : decode cX9_number 54 = .ok (.getfield 124, 3) := by decide +kernel
theorem dX9_number_57 : decode cX9_number 57 = .ok (.iload_n 3, 1) := by decide +kernel
theorem dX9_number_58 : decode cX9_number 58 = .ok (.iadd, 1) := by decide +kernel
theorem dX9_number_59 : decode cX9_number 59 = .ok (.iaload, 1) := by decide +kernel
theorem dX9_number_60 : decode cX9_number 60 = .ok (.iadd, 1) := by decide +kernel
theorem dX9_number_61 : decode cX9_number 61 = .ok (.bipush 48, 2) := by decide +kernel
theorem dX9_number_63 : decode cX9_number 63 = .ok (.isub, 1) := by decide +kernel
theorem dX9_number_64 : decode cX9_number 64 = .ok (.goto 5, 3) := by decide +kernel
theorem dX9_number_67 : decode cX9_number 67 = .ok (.iload 4, 2) := by decide +kernel
theorem dX9_number_69 : decode cX9_number 69 = .ok (.istore 4, 2) := by decide +kernel
theorem dX9_number_71 : decode cX9_number 71 = .ok (.iinc 3 1, 3) := by decide +kernel
theorem dX9_number_74 : decode cX9_number 74 = .ok (.goto (-65), 3) := by decide +kernel
theorem dX9_number_77 : decode cX9_number 77 = .ok (.iload_n 3, 1) := by decide +kernel
theorem dX9_number_78 : decode cX9_number 78 = .ok (.iconst 1, 1) := by decide +kernel
theorem dX9_number_79 : decode cX9_number 79 = .ok (.iconst 2, 1) := by decide +kernel
theorem dX9_number_80 : decode cX9_number 80 = .ok (.invokestatic 15, 3) := by decide +kernel
theorem dX9_number_83 : decode cX9_number 83 = .ok (.ifCond .eq 13, 3) := by decide +kernel
theorem dX9_number_86 : decode cX9_number 86 = .ok (.iload 4, 2) := by decide +kernel
theorem dX9_number_88 : decode cX9_number 88 = .ok (.iload_n 1, 1) := by decide +kernel
theorem dX9_number_89 : decode cX9_number 89 = .ok (.iload_n 2, 1) := by decide +kernel
theorem dX9_number_90 : decode cX9_number 90 = .ok (.invokestatic 15, 3) := by decide +kernel
theorem dX9_number_93 : decode cX9_number 93 = .ok (.ifCond .ne 5, 3) := by decide +kernel
theorem dX9_number_96 : decode cX9_number 96 = .ok (.iconst 0, 1) := by decide +kernel
theorem dX9_number_97 : decode cX9_number 97 = .ok (.ireturn, 1) := by decide +kernel
theorem dX9_number_98 : decode cX9_number 98 = .ok (.aload_n 0, 1) := by decide +kernel
theorem dX9_number_99 : decode cX9_number 99 = .ok (.iload 4, 2) := by decide +kernel
theorem dX9_number_101 : decode cX9_number 101 = .ok (.putfield 145, 3) := by decide +kernel
theorem dX9_number_104 : decode cX9_number 104 = .ok (.aload_n 0, 1) := by decide +kernel
theorem dX9_number_105 : decode cX9_number 105 = .ok (.dup, 1) := by decide +kernel
theorem dX9_number_106 : decode cX9_number 106 = .ok (.getfield 124, 3) := by decide +kernel
theorem dX9_number_109 : decode cX9_number 109 = .ok (.iload_n 3, 1) := by decide +kernel
theorem dX9_number_110 : decode cX9_number 110 = .ok (.iadd, 1) := by decide +kernel
theorem dX9_number_111 : decode cX9_number 111 = .ok (.putfield 124, 3) := by decide +kernel
theorem dX9_number_114 : decode cX9_number 114 = .ok (.iconst 1, 1) := by decide +kernel
theorem dX9_number_115 : decode cX9_number 115 = .ok (.ireturn, 1) := by decide +kernel
theorem dX9_ends_0 : decode cX9_ends 0 = .ok (.aload_n 0, 1) := by decide +kernel
theorem dX9_ends_1 : decode cX9_ends 1 = .ok (.invokevirtual 139, 3) := by decide +kernel
theorem dX9_ends_4 : decode cX9_ends 4 = .ok (.aload_n 0, 1) := by decide +kernel
theorem dX9_ends_5 : decode cX9_ends 5 = .ok (.invokevirtual 127, 3) := by decide +kernel
theorem dX9_ends_8 : decode cX9_ends 8 = .ok (.bipush 59, 2) := by decide +kernel
theorem dX9_ends_10 : decode cX9_ends 10 = .ok (.if_icmp .eq 5, 3) := by decide +kernel
theorem dX9_ends_13 : decode cX9_ends 13 = .ok (.iconst 0, 1) := by decide +kernel
theorem dX9_ends_14 : decode cX9_ends 14 = .ok (.ireturn, 1) := by decide +kernel
theorem dX9_ends_15 : decode cX9_ends 15 = .ok (.aload_n 0, 1) := by decide +kernel
theorem dX9_ends_16 : decode cX9_ends 16 = .ok (.dup, 1) := by decide +kernel
theorem dX9_ends_17 : decode cX9_ends 17 = .ok (.getfield 124, 3) := by decide +kernel
theorem dX9_ends_20 : decode cX9_ends 20 = .ok (.iconst 1, 1) := by decide +kernel
theorem dX9_ends_21 : decode cX9_ends 21 = .ok (.iadd, 1) := by decide +kernel
theorem dX9_ends_22 : decode cX9_ends 22 = .ok (.putfield 124, 3) := by decide +kernel
theorem dX9_ends_25 : decode cX9_ends 25 = .ok (.iconst 1, 1) := by decide +kernel
theorem dX9_ends_26 : decode cX9_ends 26 = .ok (.ireturn, 1) := by decide +kernel
theorem dX9_readsStick_0 : decode cX9_readsStick 0 = .ok (.iconst 4, 1) := by decide +kernel
theorem dX9_readsStick_1 : decode cX9_readsStick 1 = .ok (.aload_n 0, 1) := by decide +kernel
theorem dX9_readsStick_2 : decode cX9_readsStick 2 = .ok (.getfield 148, 3) := by decide +kernel
theorem dX9_readsStick_5 : decode cX9_readsStick 5 = .ok (.imul, 1) := by decide +kernel
theorem dX9_readsStick_6 : decode cX9_readsStick 6 = .ok (.istore_n 1, 1) := by decide +kernel
theorem dX9_readsStick_7 : decode cX9_readsStick 7 = .ok (.aload_n 0, 1) := by decide +kernel
theorem dX9_readsStick_8 : decode cX9_readsStick 8 = .ok (.iconst 0, 1) := by decide +kernel
theorem dX9_readsStick_9 : decode cX9_readsStick 9 = .ok (.iconst 5, 1) := by decide +kernel
theorem dX9_readsStick_10 : decode cX9_readsStick 10 = .ok (.invokevirtual 151, 3) := by decide +kernel
theorem dX9_readsStick_13 : decode cX9_readsStick 13 = .ok (.ifCond .ne 5, 3) := by decide +kernel
theorem dX9_readsStick_16 : decode cX9_readsStick 16 = .ok (.iconst 0, 1) := by decide +kernel
theorem dX9_readsStick_17 : decode cX9_readsStick 17 = .ok (.ireturn, 1) := by decide +kernel
theorem dX9_readsStick_18 : decode cX9_readsStick 18 = .ok (.aload_n 0, 1) := by decide +kernel
theorem dX9_readsStick_19 : decode cX9_readsStick 19 = .ok (.getfield 65, 3) := by decide +kernel
theorem dX9_readsStick_22 : decode cX9_readsStick 22 = .ok (.iload_n 1, 1) := by decide +kernel
theorem dX9_readsStick_23 : decode cX9_readsStick 23 = .ok (.aload_n 0, 1) := by decide +kernel
theorem dX9_readsStick_24 : decode cX9_readsStick 24 = .ok (.getfield 145, 3) := by decide +kernel
theorem dX9_readsStick_27 : decode cX9_readsStick 27 = .ok (.iastore, 1) := by decide +kernel
theorem dX9_readsStick_28 : decode cX9_readsStick 28 = .ok (.aload_n 0, 1) := by decide +kernel
theorem dX9_readsStick_29 : decode cX9_readsStick 29 = .ok (.iconst 1, 1) := by decide +kernel
theorem dX9_readsStick_30 : decode cX9_readsStick 30 = .ok (.bipush 9, 2) := by decide +kernel
theorem dX9_readsStick_32 : decode cX9_readsStick 32 = .ok (.invokevirtual 151, 3) := by decide +kernel
theorem dX9_readsStick_35 : decode cX9_readsStick 35 = .ok (.ifCond .ne 5, 3) := by decide +kernel
theorem dX9_readsStick_38 : decode cX9_readsStick 38 = .ok (.iconst 0, 1) := by decide +kernel
theorem dX9_readsStick_39 : decode cX9_readsStick 39 = .ok (.ireturn, 1) := by decide +kernel
theorem dX9_readsStick_40 : decode cX9_readsStick 40 = .ok (.aload_n 0, 1) := by decide +kernel
theorem dX9_readsStick_41 : decode cX9_readsStick 41 = .ok (.getfield 65, 3) := by decide +kernel
theorem dX9_readsStick_44 : decode cX9_readsStick 44 = .ok (.iload_n 1, 1) := by decide +kernel
theorem dX9_readsStick_45 : decode cX9_readsStick 45 = .ok (.iconst 2, 1) := by decide +kernel
theorem dX9_readsStick_46 : decode cX9_readsStick 46 = .ok (.iadd, 1) := by decide +kernel
theorem dX9_readsStick_47 : decode cX9_readsStick 47 = .ok (.aload_n 0, 1) := by decide +kernel
theorem dX9_readsStick_48 : decode cX9_readsStick 48 = .ok (.getfield 145, 3) := by decide +kernel
theorem dX9_readsStick_51 : decode cX9_readsStick 51 = .ok (.iastore, 1) := by decide +kernel
theorem dX9_readsStick_52 : decode cX9_readsStick 52 = .ok (.aload_n 0, 1) := by decide +kernel
theorem dX9_readsStick_53 : decode cX9_readsStick 53 = .ok (.iconst 1, 1) := by decide +kernel
theorem dX9_readsStick_54 : decode cX9_readsStick 54 = .ok (.iconst 4, 1) := by decide +kernel
theorem dX9_readsStick_55 : decode cX9_readsStick 55 = .ok (.invokevirtual 151, 3) := by decide +kernel
theorem dX9_readsStick_58 : decode cX9_readsStick 58 = .ok (.ifCond .ne 5, 3) := by decide +kernel
theorem dX9_readsStick_61 : decode cX9_readsStick 61 = .ok (.iconst 0, 1) := by decide +kernel
theorem dX9_readsStick_62 : decode cX9_readsStick 62 = .ok (.ireturn, 1) := by decide +kernel
theorem dX9_readsStick_63 : decode cX9_readsStick 63 = .ok (.aload_n 0, 1) := by decide +kernel
theorem dX9_readsStick_64 : decode cX9_readsStick 64 = .ok (.getfield 145, 3) := by decide +kernel
theorem dX9_readsStick_67 : decode cX9_readsStick 67 = .ok (.istore_n 2, 1) := by decide +kernel
theorem dX9_readsStick_68 : decode cX9_readsStick 68 = .ok (.iconst 1, 1) := by decide +kernel
theorem dX9_readsStick_69 : decode cX9_readsStick 69 = .ok (.istore_n 3, 1) := by decide +kernel
theorem dX9_readsStick_70 : decode cX9_readsStick 70 = .ok (.aload_n 0, 1) := by decide +kernel
theorem dX9_readsStick_71 : decode cX9_readsStick 71 = .ok (.invokevirtual 139, 3) := by decide +kernel
theorem dX9_readsStick_74 : decode cX9_readsStick 74 = .ok (.aload_n 0, 1) := by decide +kernel
theorem dX9_readsStick_75 : decode cX9_readsStick 75 = .ok (.invokevirtual 127, 3) := by decide +kernel
theorem dX9_readsStick_78 : decode cX9_readsStick 78 = .ok (.invokestatic 142, 3) := by decide +kernel
theorem dX9_readsStick_81 : decode cX9_readsStick 81 = .ok (.ifCond .eq 39, 3) := by decide +kernel
theorem dX9_readsStick_84 : decode cX9_readsStick 84 = .ok (.iload_n 3, 1) := by decide +kernel
theorem dX9_readsStick_85 : decode cX9_readsStick 85 = .ok (.iconst 5, 1) := by decide +kernel
theorem dX9_readsStick_86 : decode cX9_readsStick 86 = .ok (.if_icmp .eq 12, 3) := by decide +kernel
theorem dX9_readsStick_89 : decode cX9_readsStick 89 = .ok (.aload_n 0, 1) := by decide +kernel
theorem dX9_readsStick_90 : decode cX9_readsStick 90 = .ok (.iconst 1, 1) := by decide +kernel
theorem dX9_readsStick_91 : decode cX9_readsStick 91 = .ok (.iconst 4, 1) := by decide +kernel
theorem dX9_readsStick_92 : decode cX9_readsStick 92 = .ok (.invokevirtual 151, 3) := by decide +kernel
theorem dX9_readsStick_95 : decode cX9_readsStick 95 = .ok (.ifCond .ne 5, 3) := by decide +kernel
theorem dX9_readsStick_98 : decode cX9_readsStick 98 = .ok (.iconst 0, 1) := by decide +kernel
theorem dX9_readsStick_99 : decode cX9_readsStick 99 = .ok (.ireturn, 1) := by decide +kernel
theorem dX9_readsStick_100 : decode cX9_readsStick 100 = .ok (.bipush 10, 2) := by decide +kernel
theorem dX9_readsStick_102 : decode cX9_readsStick 102 = .ok (.iload_n 2, 1) := by decide +kernel
theorem dX9_readsStick_103 : decode cX9_readsStick 103 = .ok (.imul, 1) := by decide +kernel
theorem dX9_readsStick_104 : decode cX9_readsStick 104 = .ok (.aload_n 0, 1) := by decide +kernel
theorem dX9_readsStick_105 : decode cX9_readsStick 105 = .ok (.getfield 145, 3) := by decide +kernel
theorem dX9_readsStick_108 : decode cX9_readsStick 108 = .ok (.iadd, 1) := by decide +kernel
theorem dX9_readsStick_109 : decode cX9_readsStick 109 = .ok (.istore_n 2, 1) := by decide +kernel
theorem dX9_readsStick_110 : decode cX9_readsStick 110 = .ok (.iinc 3 1, 3) := by decide +kernel
theorem dX9_readsStick_113 : decode cX9_readsStick 113 = .ok (.aload_n 0, 1) := by decide +kernel
theorem dX9_readsStick_114 : decode cX9_readsStick 114 = .ok (.invokevirtual 139, 3) := by decide +kernel
theorem dX9_readsStick_117 : decode cX9_readsStick 117 = .ok (.goto (-43), 3) := by decide +kernel
theorem dX9_readsStick_120 : decode cX9_readsStick 120 = .ok (.aload_n 0, 1) := by decide +kernel
theorem dX9_readsStick_121 : decode cX9_readsStick 121 = .ok (.getfield 65, 3) := by decide +kernel
theorem dX9_readsStick_124 : decode cX9_readsStick 124 = .ok (.iload_n 1, 1) := by decide +kernel
theorem dX9_readsStick_125 : decode cX9_readsStick 125 = .ok (.iconst 1, 1) := by decide +kernel
theorem dX9_readsStick_126 : decode cX9_readsStick 126 = .ok (.iadd, 1) := by decide +kernel
theorem dX9_readsStick_127 : decode cX9_readsStick 127 = .ok (.iload_n 2, 1) := by decide +kernel
theorem dX9_readsStick_128 : decode cX9_readsStick 128 = .ok (.iastore, 1) := by decide +kernel
theorem dX9_readsStick_129 : decode cX9_readsStick 129 = .ok (.aload_n 0, 1) := by decide +kernel
theorem dX9_readsStick_130 : decode cX9_readsStick 130 = .ok (.getfield 65, 3) := by decide +kernel
theorem dX9_readsStick_133 : decode cX9_readsStick 133 = .ok (.iload_n 1, 1) := by decide +kernel
theorem dX9_readsStick_134 : decode cX9_readsStick 134 = .ok (.iconst 3, 1) := by decide +kernel
theorem dX9_readsStick_135 : decode cX9_readsStick 135 = .ok (.iadd, 1) := by decide +kernel
theorem dX9_readsStick_136 : decode cX9_readsStick 136 = .ok (.iconst 0, 1) := by decide +kernel
theorem dX9_readsStick_137 : decode cX9_readsStick 137 = .ok (.iastore, 1) := by decide +kernel
theorem dX9_readsStick_138 : decode cX9_readsStick 138 = .ok (.aload_n 0, 1) := by decide +kernel
theorem dX9_readsStick_139 : decode cX9_readsStick 139 = .ok (.dup, 1) := by decide +kernel
theorem dX9_readsStick_140 : decode cX9_readsStick 140 = .ok (.getfield 148, 3) := by decide +kernel
theorem dX9_readsStick_143 : decode cX9_readsStick 143 = .ok (.iconst 1, 1) := by decide +kernel
theorem dX9_readsStick_144 : decode cX9_readsStick 144 = .ok (.iadd, 1) := by decide +kernel
theorem dX9_readsStick_145 : decode cX9_readsStick 145 = .ok (.putfield 148, 3) := by decide +kernel
theorem dX9_readsStick_148 : decode cX9_readsStick 148 = .ok (.aload_n 0, 1) := by decide +kernel
theorem dX9_readsStick_149 : decode cX9_readsStick 149 = .ok (.invokevirtual 155, 3) := by decide +kernel
theorem dX9_readsStick_152 : decode cX9_readsStick 152 = .ok (.ireturn, 1) := by decide +kernel
theorem dX9_readsSuck_0 : decode cX9_readsSuck 0 = .ok (.aload_n 0, 1) := by decide +kernel
theorem dX9_readsSuck_1 : decode cX9_readsSuck 1 = .ok (.iconst 0, 1) := by decide +kernel
theorem dX9_readsSuck_2 : decode cX9_readsSuck 2 = .ok (.aload_n 0, 1) := by decide +kernel
theorem dX9_readsSuck_3 : decode cX9_readsSuck 3 = .ok (.getfield 148, 3) := by decide +kernel
theorem dX9_readsSuck_6 : decode cX9_readsSuck 6 = .ok (.iconst 1, 1) := by decide +kernel
theorem dX9_readsSuck_7 : decode cX9_readsSuck 7 = .ok (.isub, 1) := by decide +kernel
theorem dX9_readsSuck_8 : decode cX9_readsSuck 8 = .ok (.invokevirtual 151, 3) := by decide +kernel
theorem dX9_readsSuck_11 : decode cX9_readsSuck 11 = .ok (.ifCond .ne 5, 3) := by decide +kernel
theorem dX9_readsSuck_14 : decode cX9_readsSuck 14 = .ok (.iconst 0, 1) := by decide +kernel
theorem dX9_readsSuck_15 : decode cX9_readsSuck 15 = .ok (.ireturn, 1) := by decide +kernel
theorem dX9_readsSuck_16 : decode cX9_readsSuck 16 = .ok (.iconst 4, 1) := by decide +kernel
theorem dX9_readsSuck_17 : decode cX9_readsSuck 17 = .ok (.aload_n 0, 1) := by decide +kernel
theorem dX9_readsSuck_18 : decode cX9_readsSuck 18 = .ok (.getfield 145, 3) := by decide +kernel
theorem dX9_readsSuck_21 : decode cX9_readsSuck 21 = .ok (.imul, 1) := by decide +kernel
theorem dX9_readsSuck_22 : decode cX9_readsSuck 22 = .ok (.iconst 3, 1) := by decide +kernel
theorem dX9_readsSuck_23 : decode cX9_readsSuck 23 = .ok (.iadd, 1) := by decide +kernel
theorem dX9_readsSuck_24 : decode cX9_readsSuck 24 = .ok (.istore_n 1, 1) := by decide +kernel
theorem dX9_readsSuck_25 : decode cX9_readsSuck 25 = .ok (.aload_n 0, 1) := by decide +kernel
theorem dX9_readsSuck_26 : decode cX9_readsSuck 26 = .ok (.iconst 1, 1) := by decide +kernel
theorem dX9_readsSuck_27 : decode cX9_readsSuck 27 = .ok (.bipush 9, 2) := by decide +kernel
theorem dX9_readsSuck_29 : decode cX9_readsSuck 29 = .ok (.invokevirtual 151, 3) := by decide +kernel
theorem dX9_readsSuck_32 : decode cX9_readsSuck 32 = .ok (.ifCond .ne 5, 3) := by decide +kernel
theorem dX9_readsSuck_35 : decode cX9_readsSuck 35 = .ok (.iconst 0, 1) := by decide +kernel
theorem dX9_readsSuck_36 : decode cX9_readsSuck 36 = .ok (.ireturn, 1) := by decide +kernel
theorem dX9_readsSuck_37 : decode cX9_readsSuck 37 = .ok (.aload_n 0, 1) := by decide +kernel
theorem dX9_readsSuck_38 : decode cX9_readsSuck 38 = .ok (.getfield 65, 3) := by decide +kernel
theorem dX9_readsSuck_41 : decode cX9_readsSuck 41 = .ok (.iload_n 1, 1) := by decide +kernel
theorem dX9_readsSuck_42 : decode cX9_readsSuck 42 = .ok (.bipush 9, 2) := by decide +kernel
theorem dX9_readsSuck_44 : decode cX9_readsSuck 44 = .ok (.aload_n 0, 1) := by decide +kernel
theorem dX9_readsSuck_45 : decode cX9_readsSuck 45 = .ok (.getfield 65, 3) := by decide +kernel
theorem dX9_readsSuck_48 : decode cX9_readsSuck 48 = .ok (.iload_n 1, 1) := by decide +kernel
theorem dX9_readsSuck_49 : decode cX9_readsSuck 49 = .ok (.iaload, 1) := by decide +kernel
theorem dX9_readsSuck_50 : decode cX9_readsSuck 50 = .ok (.aload_n 0, 1) := by decide +kernel
theorem dX9_readsSuck_51 : decode cX9_readsSuck 51 = .ok (.getfield 145, 3) := by decide +kernel
theorem dX9_readsSuck_54 : decode cX9_readsSuck 54 = .ok (.iadd, 1) := by decide +kernel
theorem dX9_readsSuck_55 : decode cX9_readsSuck 55 = .ok (.invokestatic 159, 3) := by decide +kernel
theorem dX9_readsSuck_58 : decode cX9_readsSuck 58 = .ok (.iastore, 1) := by decide +kernel
theorem dX9_readsSuck_59 : decode cX9_readsSuck 59 = .ok (.aload_n 0, 1) := by decide +kernel
theorem dX9_readsSuck_60 : decode cX9_readsSuck 60 = .ok (.invokevirtual 155, 3) := by decide +kernel
theorem dX9_readsSuck_63 : decode cX9_readsSuck 63 = .ok (.ireturn, 1) := by decide +kernel
theorem dX9_readsItem_0 : decode cX9_readsItem 0 = .ok (.aload_n 0, 1) := by decide +kernel
theorem dX9_readsItem_1 : decode cX9_readsItem 1 = .ok (.invokevirtual 162, 3) := by decide +kernel
theorem dX9_readsItem_4 : decode cX9_readsItem 4 = .ok (.istore_n 1, 1) := by decide +kernel
theorem dX9_readsItem_5 : decode cX9_readsItem 5 = .ok (.iload_n 1, 1) := by decide +kernel
theorem dX9_readsItem_6 : decode cX9_readsItem 6 = .ok (.iconst 1, 1) := by decide +kernel
theorem dX9_readsItem_7 : decode cX9_readsItem 7 = .ok (.if_icmp .lt 17, 3) := by decide +kernel
theorem dX9_readsItem_10 : decode cX9_readsItem 10 = .ok (.iload_n 1, 1) := by decide +kernel
theorem dX9_readsItem_11 : decode cX9_readsItem 11 = .ok (.iconst 1, 1) := by decide +kernel
theorem dX9_readsItem_12 : decode cX9_readsItem 12 = .ok (.if_icmp .ne 14, 3) := by decide +kernel
theorem dX9_readsItem_15 : decode cX9_readsItem 15 = .ok (.aload_n 0, 1) := by decide +kernel
theorem dX9_readsItem_16 : decode cX9_readsItem 16 = .ok (.getfield 148, 3) := by decide +kernel
theorem dX9_readsItem_19 : decode cX9_readsItem 19 = .ok (.bipush 6, 2) := by decide +kernel
theorem dX9_readsItem_21 : decode cX9_readsItem 21 = .ok (.if_icmp .ne 5, 3) := by decide +kernel
theorem dX9_readsItem_24 : decode cX9_readsItem 24 = .ok (.iconst 0, 1) := by decide +kernel
theorem dX9_readsItem_25 : decode cX9_readsItem 25 = .ok (.ireturn, 1) := by decide +kernel
theorem dX9_readsItem_26 : decode cX9_readsItem 26 = .ok (.aload_n 0, 1) := by decide +kernel
theorem dX9_readsItem_27 : decode cX9_readsItem 27 = .ok (.dup, 1) := by decide +kernel
theorem dX9_readsItem_28 : decode cX9_readsItem 28 = .ok (.getfield 124, 3) := by decide +kernel
theorem dX9_readsItem_31 : decode cX9_readsItem 31 = .ok (.iload_n 1, 1) := by decide +kernel
theorem dX9_readsItem_32 : decode cX9_readsItem 32 = .ok (.iconst 1, 1) := by decide +kernel
theorem dX9_readsItem_33 : decode cX9_readsItem 33 = .ok (.if_icmp .ne 7, 3) := by decide +kernel
theorem dX9_readsItem_36 : decode cX9_readsItem 36 = .ok (.iconst 5, 1) := by decide +kernel
theorem dX9_readsItem_37 : decode cX9_readsItem 37 = .ok (.goto 4, 3) := by decide +kernel
theorem dX9_readsItem_40 : decode cX9_readsItem 40 = .ok (.iconst 4, 1) := by decide +kernel
theorem dX9_readsItem_41 : decode cX9_readsItem 41 = .ok (.iadd, 1) := by decide +kernel
theorem dX9_readsItem_42 : decode cX9_readsItem 42 = .ok (.putfield 124, 3) := by decide +kernel
theorem dX9_readsItem_45 : decode cX9_readsItem 45 = .ok (.iload_n 1, 1) := by decide +kernel
theorem dX9_readsItem_46 : decode cX9_readsItem 46 = .ok (.iconst 1, 1) := by decide +kernel
theorem dX9_readsItem_47 : decode cX9_readsItem 47 = .ok (.if_icmp .ne 10, 3) := by decide +kernel
theorem dX9_readsItem_50 : decode cX9_readsItem 50 = .ok (.aload_n 0, 1) := by decide +kernel
theorem dX9_readsItem_51 : decode cX9_readsItem 51 = .ok (.invokevirtual 165, 3) := by decide +kernel
theorem dX9_readsItem_54 : decode cX9_readsItem 54 = .ok (.goto 7, 3) := by decide +kernel
theorem dX9_readsItem_57 : decode cX9_readsItem 57 = .ok (.aload_n 0, 1) := by decide +kernel
theorem dX9_readsItem_58 : decode cX9_readsItem 58 = .ok (.invokevirtual 168, 3) := by decide +kernel
theorem dX9_readsItem_61 : decode cX9_readsItem 61 = .ok (.ireturn, 1) := by decide +kernel
theorem dX9_readsTown_0 : decode cX9_readsTown 0 = .ok (.aload_n 0, 1) := by decide +kernel
theorem dX9_readsTown_1 : decode cX9_readsTown 1 = .ok (.iconst 0, 1) := by decide +kernel
theorem dX9_readsTown_2 : decode cX9_readsTown 2 = .ok (.putfield 124, 3) := by decide +kernel
theorem dX9_readsTown_5 : decode cX9_readsTown 5 = .ok (.aload_n 0, 1) := by decide +kernel
theorem dX9_readsTown_6 : decode cX9_readsTown 6 = .ok (.iconst 0, 1) := by decide +kernel
theorem dX9_readsTown_7 : decode cX9_readsTown 7 = .ok (.putfield 148, 3) := by decide +kernel
theorem dX9_readsTown_10 : decode cX9_readsTown 10 = .ok (.aload_n 0, 1) := by decide +kernel
theorem dX9_readsTown_11 : decode cX9_readsTown 11 = .ok (.invokevirtual 139, 3) := by decide +kernel
theorem dX9_readsTown_14 : decode cX9_readsTown 14 = .ok (.aload_n 0, 1) := by decide +kernel
theorem dX9_readsTown_15 : decode cX9_readsTown 15 = .ok (.invokevirtual 162, 3) := by decide +kernel
theorem dX9_readsTown_18 : decode cX9_readsTown 18 = .ok (.ifCond .eq 5, 3) := by decide +kernel
theorem dX9_readsTown_21 : decode cX9_readsTown 21 = .ok (.iconst (-1), 1) := by decide +kernel
theorem dX9_readsTown_22 : decode cX9_readsTown 22 = .ok (.ireturn, 1) := by decide +kernel
theorem dX9_readsTown_23 : decode cX9_readsTown 23 = .ok (.aload_n 0, 1) := by decide +kernel
theorem dX9_readsTown_24 : decode cX9_readsTown 24 = .ok (.dup, 1) := by decide +kernel
theorem dX9_readsTown_25 : decode cX9_readsTown 25 = .ok (.getfield 124, 3) := by decide +kernel
theorem dX9_readsTown_28 : decode cX9_readsTown 28 = .ok (.iconst 4, 1) := by decide +kernel
theorem dX9_readsTown_29 : decode cX9_readsTown 29 = .ok (.iadd, 1) := by decide +kernel
theorem dX9_readsTown_30 : decode cX9_readsTown 30 = .ok (.putfield 124, 3) := by decide +kernel
theorem dX9_readsTown_33 : decode cX9_readsTown 33 = .ok (.aload_n 0, 1) := by decide +kernel
theorem dX9_readsTown_34 : decode cX9_readsTown 34 = .ok (.invokevirtual 155, 3) := by decide +kernel
theorem dX9_readsTown_37 : decode cX9_readsTown 37 = .ok (.ifCond .ne 5, 3) := by decide +kernel
theorem dX9_readsTown_40 : decode cX9_readsTown 40 = .ok (.iconst (-1), 1) := by decide +kernel
theorem dX9_readsTown_41 : decode cX9_readsTown 41 = .ok (.ireturn, 1) := by decide +kernel
theorem dX9_readsTown_42 : decode cX9_readsTown 42 = .ok (.iconst 1, 1) := by decide +kernel
theorem dX9_readsTown_43 : decode cX9_readsTown 43 = .ok (.istore_n 1, 1) := by decide +kernel
theorem dX9_readsTown_44 : decode cX9_readsTown 44 = .ok (.aload_n 0, 1) := by decide +kernel
theorem dX9_readsTown_45 : decode cX9_readsTown 45 = .ok (.invokevirtual 139, 3) := by decide +kernel
theorem dX9_readsTown_48 : decode cX9_readsTown 48 = .ok (.aload_n 0, 1) := by decide +kernel
theorem dX9_readsTown_49 : decode cX9_readsTown 49 = .ok (.getfield 124, 3) := by decide +kernel
theorem dX9_readsTown_52 : decode cX9_readsTown 52 = .ok (.aload_n 0, 1) := by decide +kernel
theorem dX9_readsTown_53 : decode cX9_readsTown 53 = .ok (.getfield 121, 3) := by decide +kernel
theorem dX9_readsTown_56 : decode cX9_readsTown 56 = .ok (.if_icmp .ge 22, 3) := by decide +kernel
theorem dX9_readsTown_59 : decode cX9_readsTown 59 = .ok (.aload_n 0, 1) := by decide +kernel
theorem dX9_readsTown_60 : decode cX9_readsTown 60 = .ok (.invokevirtual 171, 3) := by decide +kernel
theorem dX9_readsTown_63 : decode cX9_readsTown 63 = .ok (.ifCond .ne 5, 3) := by decide +kernel
theorem dX9_readsTown_66 : decode cX9_readsTown 66 = .ok (.iconst (-1), 1) := by decide +kernel
theorem dX9_readsTown_67 : decode cX9_readsTown 67 = .ok (.ireturn, 1) := by decide +kernel
theorem dX9_readsTown_68 : decode cX9_readsTown 68 = .ok (.iinc 1 1, 3) := by decide +kernel
theorem dX9_readsTown_71 : decode cX9_readsTown 71 = .ok (.aload_n 0, 1) := by decide +kernel
theorem dX9_readsTown_72 : decode cX9_readsTown 72 = .ok (.invokevirtual 139, 3) := by decide +kernel
theorem dX9_readsTown_75 : decode cX9_readsTown 75 = .ok (.goto (-27), 3) := by decide +kernel
theorem dX9_readsTown_78 : decode cX9_readsTown 78 = .ok (.iload_n 1, 1) := by decide +kernel
theorem dX9_readsTown_79 : decode cX9_readsTown 79 = .ok (.ireturn, 1) := by decide +kernel
theorem dX9_read_0 : decode cX9_read 0 = .ok (.aload_n 0, 1) := by decide +kernel
theorem dX9_read_1 : decode cX9_read 1 = .ok (.invokevirtual 174, 3) := by decide +kernel
theorem dX9_read_4 : decode cX9_read 4 = .ok (.istore_n 1, 1) := by decide +kernel
theorem dX9_read_5 : decode cX9_read 5 = .ok (.iload_n 1, 1) := by decide +kernel
theorem dX9_read_6 : decode cX9_read 6 = .ok (.ifCond .ge 11, 3) := by decide +kernel
theorem dX9_read_9 : decode cX9_read 9 = .ok (.bipush (-10), 2) := by decide +kernel
theorem dX9_read_11 : decode cX9_read 11 = .ok (.aload_n 0, 1) := by decide +kernel
theorem dX9_read_12 : decode cX9_read 12 = .ok (.getfield 124, 3) := by decide +kernel
theorem dX9_read_15 : decode cX9_read 15 = .ok (.isub, 1) := by decide +kernel
theorem dX9_read_16 : decode cX9_read 16 = .ok (.ireturn, 1) := by decide +kernel
theorem dX9_read_17 : decode cX9_read 17 = .ok (.aload_n 0, 1) := by decide +kernel
theorem dX9_read_18 : decode cX9_read 18 = .ok (.invokevirtual 93, 3) := by decide +kernel
theorem dX9_read_21 : decode cX9_read 21 = .ok (.iconst 0, 1) := by decide +kernel
theorem dX9_read_22 : decode cX9_read 22 = .ok (.istore_n 2, 1) := by decide +kernel
theorem dX9_read_23 : decode cX9_read 23 = .ok (.iload_n 2, 1) := by decide +kernel
theorem dX9_read_24 : decode cX9_read 24 = .ok (.aload_n 0, 1) := by decide +kernel
theorem dX9_read_25 : decode cX9_read 25 = .ok (.getfield 148, 3) := by decide +kernel
theorem dX9_read_28 : decode cX9_read 28 = .ok (.if_icmp .ge 52, 3) := by decide +kernel
theorem dX9_read_31 : decode cX9_read 31 = .ok (.aload_n 0, 1) := by decide +kernel
theorem dX9_read_32 : decode cX9_read 32 = .ok (.aload_n 0, 1) := by decide +kernel
theorem dX9_read_33 : decode cX9_read 33 = .ok (.getfield 65, 3) := by decide +kernel
theorem dX9_read_36 : decode cX9_read 36 = .ok (.iconst 4, 1) := by decide +kernel
theorem dX9_read_37 : decode cX9_read 37 = .ok (.iload_n 2, 1) := by decide +kernel
theorem dX9_read_38 : decode cX9_read 38 = .ok (.imul, 1) := by decide +kernel
theorem dX9_read_39 : decode cX9_read 39 = .ok (.iaload, 1) := by decide +kernel
theorem dX9_read_40 : decode cX9_read 40 = .ok (.aload_n 0, 1) := by decide +kernel
theorem dX9_read_41 : decode cX9_read 41 = .ok (.getfield 65, 3) := by decide +kernel
theorem dX9_read_44 : decode cX9_read 44 = .ok (.iconst 4, 1) := by decide +kernel
theorem dX9_read_45 : decode cX9_read 45 = .ok (.iload_n 2, 1) := by decide +kernel
theorem dX9_read_46 : decode cX9_read 46 = .ok (.imul, 1) := by decide +kernel
theorem dX9_read_47 : decode cX9_read 47 = .ok (.iconst 1, 1) := by decide +kernel
theorem dX9_read_48 : decode cX9_read 48 = .ok (.iadd, 1) := by decide +kernel
theorem dX9_read_49 : decode cX9_read 49 = .ok (.iaload, 1) := by decide +kernel
theorem dX9_read_50 : decode cX9_read 50 = .ok (.aload_n 0, 1) := by decide +kernel
theorem dX9_read_51 : decode cX9_read 51 = .ok (.getfield 65, 3) := by decide +kernel
theorem dX9_read_54 : decode cX9_read 54 = .ok (.iconst 4, 1) := by decide +kernel
theorem dX9_read_55 : decode cX9_read 55 = .ok (.iload_n 2, 1) := by decide +kernel
theorem dX9_read_56 : decode cX9_read 56 = .ok (.imul, 1) := by decide +kernel
theorem dX9_read_57 : decode cX9_read 57 = .ok (.iconst 2, 1) := by decide +kernel
theorem dX9_read_58 : decode cX9_read 58 = .ok (.iadd, 1) := by decide +kernel
theorem dX9_read_59 : decode cX9_read 59 = .ok (.iaload, 1) := by decide +kernel
theorem dX9_read_60 : decode cX9_read 60 = .ok (.aload_n 0, 1) := by decide +kernel
theorem dX9_read_61 : decode cX9_read 61 = .ok (.getfield 65, 3) := by decide +kernel
theorem dX9_read_64 : decode cX9_read 64 = .ok (.iconst 4, 1) := by decide +kernel
theorem dX9_read_65 : decode cX9_read 65 = .ok (.iload_n 2, 1) := by decide +kernel
theorem dX9_read_66 : decode cX9_read 66 = .ok (.imul, 1) := by decide +kernel
theorem dX9_read_67 : decode cX9_read 67 = .ok (.iconst 3, 1) := by decide +kernel
theorem dX9_read_68 : decode cX9_read 68 = .ok (.iadd, 1) := by decide +kernel
theorem dX9_read_69 : decode cX9_read 69 = .ok (.iaload, 1) := by decide +kernel
theorem dX9_read_70 : decode cX9_read 70 = .ok (.invokevirtual 117, 3) := by decide +kernel
theorem dX9_read_73 : decode cX9_read 73 = .ok (.pop, 1) := by decide +kernel
theorem dX9_read_74 : decode cX9_read 74 = .ok (.iinc 2 1, 3) := by decide +kernel
theorem dX9_read_77 : decode cX9_read 77 = .ok (.goto (-54), 3) := by decide +kernel
theorem dX9_read_80 : decode cX9_read 80 = .ok (.iload_n 1, 1) := by decide +kernel
theorem dX9_read_81 : decode cX9_read 81 = .ok (.ireturn, 1) := by decide +kernel
theorem dX9_readIn_0 : decode cX9_readIn 0 = .ok (.aload_n 0, 1) := by decide +kernel
theorem dX9_readIn_1 : decode cX9_readIn 1 = .ok (.getfield 38, 3) := by decide +kernel
theorem dX9_readIn_4 : decode cX9_readIn 4 = .ok (.iload_n 1, 1) := by decide +kernel
theorem dX9_readIn_5 : decode cX9_readIn 5 = .ok (.iaload, 1) := by decide +kernel
theorem dX9_readIn_6 : decode cX9_readIn 6 = .ok (.aload_n 0, 1) := by decide +kernel
theorem dX9_readIn_7 : decode cX9_readIn 7 = .ok (.getfield 41, 3) := by decide +kernel
theorem dX9_readIn_10 : decode cX9_readIn 10 = .ok (.iload_n 1, 1) := by decide +kernel
theorem dX9_readIn_11 : decode cX9_readIn 11 = .ok (.iaload, 1) := by decide +kernel
theorem dX9_readIn_12 : decode cX9_readIn 12 = .ok (.iload_n 2, 1) := by decide +kernel
theorem dX9_readIn_13 : decode cX9_readIn 13 = .ok (.aload_n 0, 1) := by decide +kernel
theorem dX9_readIn_14 : decode cX9_readIn 14 = .ok (.getfield 47, 3) := by decide +kernel
theorem dX9_readIn_17 : decode cX9_readIn 17 = .ok (.iload_n 1, 1) := by decide +kernel
theorem dX9_readIn_18 : decode cX9_readIn 18 = .ok (.iaload, 1) := by decide +kernel
theorem dX9_readIn_19 : decode cX9_readIn 19 = .ok (.invokestatic 177, 3) := by decide +kernel
theorem dX9_readIn_22 : decode cX9_readIn 22 = .ok (.ireturn, 1) := by decide +kernel
theorem dX9_lay4_0 : decode cX9_lay4 0 = .ok (.aload_n 1, 1) := by decide +kernel
theorem dX9_lay4_1 : decode cX9_lay4 1 = .ok (.iload_n 2, 1) := by decide +kernel
theorem dX9_lay4_2 : decode cX9_lay4 2 = .ok (.aload_n 0, 1) := by decide +kernel
theorem dX9_lay4_3 : decode cX9_lay4 3 = .ok (.getfield 96, 3) := by decide +kernel
theorem dX9_lay4_6 : decode cX9_lay4 6 = .ok (.iastore, 1) := by decide +kernel
theorem dX9_lay4_7 : decode cX9_lay4 7 = .ok (.iconst 0, 1) := by decide +kernel
theorem dX9_lay4_8 : decode cX9_lay4 8 = .ok (.istore_n 3, 1) := by decide +kernel
theorem dX9_lay4_9 : decode cX9_lay4 9 = .ok (.iload_n 3, 1) := by decide +kernel
theorem dX9_lay4_10 : decode cX9_lay4 10 = .ok (.bipush 6, 2) := by decide +kernel
theorem dX9_lay4_12 : decode cX9_lay4 12 = .ok (.if_icmp .ge 64, 3) := by decide +kernel
theorem dX9_lay4_15 : decode cX9_lay4 15 = .ok (.aload_n 1, 1) := by decide +kernel
theorem dX9_lay4_16 : decode cX9_lay4 16 = .ok (.iload_n 2, 1) := by decide +kernel
theorem dX9_lay4_17 : decode cX9_lay4 17 = .ok (.iconst 1, 1) := by decide +kernel
theorem dX9_lay4_18 : decode cX9_lay4 18 = .ok (.iadd, 1) := by decide +kernel
theorem dX9_lay4_19 : decode cX9_lay4 19 = .ok (.iload_n 3, 1) := by decide +kernel
theorem dX9_lay4_20 : decode cX9_lay4 20 = .ok (.iadd, 1) := by decide +kernel
theorem dX9_lay4_21 : decode cX9_lay4 21 = .ok (.aload_n 0, 1) := by decide +kernel
theorem dX9_lay4_22 : decode cX9_lay4 22 = .ok (.getfield 38, 3) := by decide +kernel
theorem dX9_lay4_25 : decode cX9_lay4 25 = .ok (.iload_n 3, 1) := by decide +kernel
theorem dX9_lay4_26 : decode cX9_lay4 26 = .ok (.iaload, 1) := by decide +kernel
theorem dX9_lay4_27 : decode cX9_lay4 27 = .ok (.iastore, 1) := by decide +kernel
theorem dX9_lay4_28 : decode cX9_lay4 28 = .ok (.aload_n 1, 1) := by decide +kernel
theorem dX9_lay4_29 : decode cX9_lay4 29 = .ok (.iload_n 2, 1) := by decide +kernel
theorem dX9_lay4_30 : decode cX9_lay4 30 = .ok (.bipush 7, 2) := by decide +kernel
theorem dX9_lay4_32 : decode cX9_lay4 32 = .ok (.iadd, 1) := by decide +kernel
theorem dX9_lay4_33 : decode cX9_lay4 33 = .ok (.iload_n 3, 1) := by decide +kernel
theorem dX9_lay4_34 : decode cX9_lay4 34 = .ok (.iadd, 1) := by decide +kernel
theorem dX9_lay4_35 : decode cX9_lay4 35 = .ok (.aload_n 0, 1) := by decide +kernel
theorem dX9_lay4_36 : decode cX9_lay4 36 = .ok (.getfield 41, 3) := by decide +kernel
theorem dX9_lay4_39 : decode cX9_lay4 39 = .ok (.iload_n 3, 1) := by decide +kernel
theorem dX9_lay4_40 : decode cX9_lay4 40 = .ok (.iaload, 1) := by decide +kernel
theorem dX9_lay4_41 : decode cX9_lay4 41 = .ok (.iastore, 1) := by decide +kernel
theorem dX9_lay4_42 : decode cX9_lay4 42 = .ok (.aload_n 1, 1) := by decide +kernel
theorem dX9_lay4_43 : decode cX9_lay4 43 = .ok (.iload_n 2, 1) := by decide +kernel
theorem dX9_lay4_44 : decode cX9_lay4 44 = .ok (.bipush 13, 2) := by decide +kernel
theorem dX9_lay4_46 : decode cX9_lay4 46 = .ok (.iadd, 1) := by decide +kernel
theorem dX9_lay4_47 : decode cX9_lay4 47 = .ok (.iload_n 3, 1) := by decide +kernel
theorem dX9_lay4_48 : decode cX9_lay4 48 = .ok (.iadd, 1) := by decide +kernel
theorem dX9_lay4_49 : decode cX9_lay4 49 = .ok (.aload_n 0, 1) := by decide +kernel
theorem dX9_lay4_50 : decode cX9_lay4 50 = .ok (.getfield 44, 3) := by decide +kernel
theorem dX9_lay4_53 : decode cX9_lay4 53 = .ok (.iload_n 3, 1) := by decide +kernel
theorem dX9_lay4_54 : decode cX9_lay4 54 = .ok (.iaload, 1) := by decide +kernel
theorem dX9_lay4_55 : decode cX9_lay4 55 = .ok (.iastore, 1) := by decide +kernel
theorem dX9_lay4_56 : decode cX9_lay4 56 = .ok (.aload_n 1, 1) := by decide +kernel
theorem dX9_lay4_57 : decode cX9_lay4 57 = .ok (.iload_n 2, 1) := by decide +kernel
theorem dX9_lay4_58 : decode cX9_lay4 58 = .ok (.bipush 19, 2) := by decide +kernel
theorem dX9_lay4_60 : decode cX9_lay4 60 = .ok (.iadd, 1) := by decide +kernel
theorem dX9_lay4_61 : decode cX9_lay4 61 = .ok (.iload_n 3, 1) := by decide +kernel
theorem dX9_lay4_62 : decode cX9_lay4 62 = .ok (.iadd, 1) := by decide +kernel
theorem dX9_lay4_63 : decode cX9_lay4 63 = .ok (.aload_n 0, 1) := by decide +kernel
theorem dX9_lay4_64 : decode cX9_lay4 64 = .ok (.getfield 47, 3) := by decide +kernel
theorem dX9_lay4_67 : decode cX9_lay4 67 = .ok (.iload_n 3, 1) := by decide +kernel
theorem dX9_lay4_68 : decode cX9_lay4 68 = .ok (.iaload, 1) := by decide +kernel
theorem dX9_lay4_69 : decode cX9_lay4 69 = .ok (.iastore, 1) := by decide +kernel
theorem dX9_lay4_70 : decode cX9_lay4 70 = .ok (.iinc 3 1, 3) := by decide +kernel
theorem dX9_lay4_73 : decode cX9_lay4 73 = .ok (.goto (-64), 3) := by decide +kernel
theorem dX9_lay4_76 : decode cX9_lay4 76 = .ok (.return_, 1) := by decide +kernel
theorem dX9_take4_0 : decode cX9_take4 0 = .ok (.aload_n 0, 1) := by decide +kernel
theorem dX9_take4_1 : decode cX9_take4 1 = .ok (.aload_n 1, 1) := by decide +kernel
theorem dX9_take4_2 : decode cX9_take4 2 = .ok (.iload_n 2, 1) := by decide +kernel
theorem dX9_take4_3 : decode cX9_take4 3 = .ok (.iaload, 1) := by decide +kernel
theorem dX9_take4_4 : decode cX9_take4 4 = .ok (.putfield 96, 3) := by decide +kernel
theorem dX9_take4_7 : decode cX9_take4 7 = .ok (.iconst 0, 1) := by decide +kernel
theorem dX9_take4_8 : decode cX9_take4 8 = .ok (.istore_n 3, 1) := by decide +kernel
theorem dX9_take4_9 : decode cX9_take4 9 = .ok (.iload_n 3, 1) := by decide +kernel
theorem dX9_take4_10 : decode cX9_take4 10 = .ok (.bipush 6, 2) := by decide +kernel
theorem dX9_take4_12 : decode cX9_take4 12 = .ok (.if_icmp .ge 64, 3) := by decide +kernel
theorem dX9_take4_15 : decode cX9_take4 15 = .ok (.aload_n 0, 1) := by decide +kernel
theorem dX9_take4_16 : decode cX9_take4 16 = .ok (.getfield 38, 3) := by decide +kernel
theorem dX9_take4_19 : decode cX9_take4 19 = .ok (.iload_n 3, 1) := by decide +kernel
theorem dX9_take4_20 : decode cX9_take4 20 = .ok (.aload_n 1, 1) := by decide +kernel
theorem dX9_take4_21 : decode cX9_take4 21 = .ok (.iload_n 2, 1) := by decide +kernel
theorem dX9_take4_22 : decode cX9_take4 22 = .ok (.iconst 1, 1) := by decide +kernel
theorem dX9_take4_23 : decode cX9_take4 23 = .ok (.iadd, 1) := by decide +kernel
theorem dX9_take4_24 : decode cX9_take4 24 = .ok (.iload_n 3, 1) := by decide +kernel
theorem dX9_take4_25 : decode cX9_take4 25 = .ok (.iadd, 1) := by decide +kernel
theorem dX9_take4_26 : decode cX9_take4 26 = .ok (.iaload, 1) := by decide +kernel
theorem dX9_take4_27 : decode cX9_take4 27 = .ok (.iastore, 1) := by decide +kernel
theorem dX9_take4_28 : decode cX9_take4 28 = .ok (.aload_n 0, 1) := by decide +kernel
theorem dX9_take4_29 : decode cX9_take4 29 = .ok (.getfield 41, 3) := by decide +kernel
theorem dX9_take4_32 : decode cX9_take4 32 = .ok (.iload_n 3, 1) := by decide +kernel
theorem dX9_take4_33 : decode cX9_take4 33 = .ok (.aload_n 1, 1) := by decide +kernel
theorem dX9_take4_34 : decode cX9_take4 34 = .ok (.iload_n 2, 1) := by decide +kernel
theorem dX9_take4_35 : decode cX9_take4 35 = .ok (.bipush 7, 2) := by decide +kernel
theorem dX9_take4_37 : decode cX9_take4 37 = .ok (.iadd, 1) := by decide +kernel
theorem dX9_take4_38 : decode cX9_take4 38 = .ok (.iload_n 3, 1) := by decide +kernel
theorem dX9_take4_39 : decode cX9_take4 39 = .ok (.iadd, 1) := by decide +kernel
theorem dX9_take4_40 : decode cX9_take4 40 = .ok (.iaload, 1) := by decide +kernel
theorem dX9_take4_41 : decode cX9_take4 41 = .ok (.iastore, 1) := by decide +kernel
theorem dX9_take4_42 : decode cX9_take4 42 = .ok (.aload_n 0, 1) := by decide +kernel
theorem dX9_take4_43 : decode cX9_take4 43 = .ok (.getfield 44, 3) := by decide +kernel
theorem dX9_take4_46 : decode cX9_take4 46 = .ok (.iload_n 3, 1) := by decide +kernel
theorem dX9_take4_47 : decode cX9_take4 47 = .ok (.aload_n 1, 1) := by decide +kernel
theorem dX9_take4_48 : decode cX9_take4 48 = .ok (.iload_n 2, 1) := by decide +kernel
theorem dX9_take4_49 : decode cX9_take4 49 = .ok (.bipush 13, 2) := by decide +kernel
theorem dX9_take4_51 : decode cX9_take4 51 = .ok (.iadd, 1) := by decide +kernel
theorem dX9_take4_52 : decode cX9_take4 52 = .ok (.iload_n 3, 1) := by decide +kernel
theorem dX9_take4_53 : decode cX9_take4 53 = .ok (.iadd, 1) := by decide +kernel
theorem dX9_take4_54 : decode cX9_take4 54 = .ok (.iaload, 1) := by decide +kernel
theorem dX9_take4_55 : decode cX9_take4 55 = .ok (.iastore, 1) := by decide +kernel
theorem dX9_take4_56 : decode cX9_take4 56 = .ok (.aload_n 0, 1) := by decide +kernel
theorem dX9_take4_57 : decode cX9_take4 57 = .ok (.getfield 47, 3) := by decide +kernel
theorem dX9_take4_60 : decode cX9_take4 60 = .ok (.iload_n 3, 1) := by decide +kernel
theorem dX9_take4_61 : decode cX9_take4 61 = .ok (.aload_n 1, 1) := by decide +kernel
theorem dX9_take4_62 : decode cX9_take4 62 = .ok (.iload_n 2, 1) := by decide +kernel
theorem dX9_take4_63 : decode cX9_take4 63 = .ok (.bipush 19, 2) := by decide +kernel
theorem dX9_take4_65 : decode cX9_take4 65 = .ok (.iadd, 1) := by decide +kernel
theorem dX9_take4_66 : decode cX9_take4 66 = .ok (.iload_n 3, 1) := by decide +kernel
theorem dX9_take4_67 : decode cX9_take4 67 = .ok (.iadd, 1) := by decide +kernel
theorem dX9_take4_68 : decode cX9_take4 68 = .ok (.iaload, 1) := by decide +kernel
theorem dX9_take4_69 : decode cX9_take4 69 = .ok (.iastore, 1) := by decide +kernel
theorem dX9_take4_70 : decode cX9_take4 70 = .ok (.iinc 3 1, 3) := by decide +kernel
theorem dX9_take4_73 : decode cX9_take4 73 = .ok (.goto (-64), 3) := by decide +kernel
theorem dX9_take4_76 : decode cX9_take4 76 = .ok (.return_, 1) := by decide +kernel
theorem dX9_notes_0 : decode cX9_notes 0 = .ok (.aload_n 0, 1) := by decide +kernel
theorem dX9_notes_1 : decode cX9_notes 1 = .ok (.getfield 103, 3) := by decide +kernel
theorem dX9_notes_4 : decode cX9_notes 4 = .ok (.bipush 6, 2) := by decide +kernel
theorem dX9_notes_6 : decode cX9_notes 6 = .ok (.if_icmp .ne 42, 3) := by decide +kernel
theorem dX9_notes_9 : decode cX9_notes 9 = .ok (.iconst 0, 1) := by decide +kernel
theorem dX9_notes_10 : decode cX9_notes 10 = .ok (.istore_n 1, 1) := by decide +kernel
theorem dX9_notes_11 : decode cX9_notes 11 = .ok (.iload_n 1, 1) := by decide +kernel
theorem dX9_notes_12 : decode cX9_notes 12 = .ok (.bipush 125, 2) := by decide +kernel
theorem dX9_notes_14 : decode cX9_notes 14 = .ok (.if_icmp .ge 24, 3) := by decide +kernel
theorem dX9_notes_17 : decode cX9_notes 17 = .ok (.aload_n 0, 1) := by decide +kernel
theorem dX9_notes_18 : decode cX9_notes 18 = .ok (.getfield 68, 3) := by decide +kernel
theorem dX9_notes_21 : decode cX9_notes 21 = .ok (.iload_n 1, 1) := by decide +kernel
theorem dX9_notes_22 : decode cX9_notes 22 = .ok (.aload_n 0, 1) := by decide +kernel
theorem dX9_notes_23 : decode cX9_notes 23 = .ok (.getfield 68, 3) := by decide +kernel
theorem dX9_notes_26 : decode cX9_notes 26 = .ok (.iload_n 1, 1) := by decide +kernel
theorem dX9_notes_27 : decode cX9_notes 27 = .ok (.bipush 25, 2) := by decide +kernel
theorem dX9_notes_29 : decode cX9_notes 29 = .ok (.iadd, 1) := by decide +kernel
theorem dX9_notes_30 : decode cX9_notes 30 = .ok (.iaload, 1) := by decide +kernel
theorem dX9_notes_31 : decode cX9_notes 31 = .ok (.iastore, 1) := by decide +kernel
theorem dX9_notes_32 : decode cX9_notes 32 = .ok (.iinc 1 1, 3) := by decide +kernel
theorem dX9_notes_35 : decode cX9_notes 35 = .ok (.goto (-24), 3) := by decide +kernel
theorem dX9_notes_38 : decode cX9_notes 38 = .ok (.aload_n 0, 1) := by decide +kernel
theorem dX9_notes_39 : decode cX9_notes 39 = .ok (.dup, 1) := by decide +kernel
theorem dX9_notes_40 : decode cX9_notes 40 = .ok (.getfield 103, 3) := by decide +kernel
theorem dX9_notes_43 : decode cX9_notes 43 = .ok (.iconst 1, 1) := by decide +kernel
theorem dX9_notes_44 : decode cX9_notes 44 = .ok (.isub, 1) := by decide +kernel
theorem dX9_notes_45 : decode cX9_notes 45 = .ok (.putfield 103, 3) := by decide +kernel
theorem dX9_notes_48 : decode cX9_notes 48 = .ok (.aload_n 0, 1) := by decide +kernel
theorem dX9_notes_49 : decode cX9_notes 49 = .ok (.aload_n 0, 1) := by decide +kernel
theorem dX9_notes_50 : decode cX9_notes 50 = .ok (.getfield 68, 3) := by decide +kernel
theorem dX9_notes_53 : decode cX9_notes 53 = .ok (.bipush 25, 2) := by decide +kernel
theorem dX9_notes_55 : decode cX9_notes 55 = .ok (.aload_n 0, 1) := by decide +kernel
theorem dX9_notes_56 : decode cX9_notes 56 = .ok (.getfield 103, 3) := by decide +kernel
theorem dX9_notes_59 : decode cX9_notes 59 = .ok (.imul, 1) := by decide +kernel
theorem dX9_notes_60 : decode cX9_notes 60 = .ok (.invokevirtual 180, 3) := by decide +kernel
theorem dX9_notes_63 : decode cX9_notes 63 = .ok (.aload_n 0, 1) := by decide +kernel
theorem dX9_notes_64 : decode cX9_notes 64 = .ok (.dup, 1) := by decide +kernel
theorem dX9_notes_65 : decode cX9_notes 65 = .ok (.getfield 103, 3) := by decide +kernel
theorem dX9_notes_68 : decode cX9_notes 68 = .ok (.iconst 1, 1) := by decide +kernel
theorem dX9_notes_69 : decode cX9_notes 69 = .ok (.iadd, 1) := by decide +kernel
theorem dX9_notes_70 : decode cX9_notes 70 = .ok (.putfield 103, 3) := by decide +kernel
theorem dX9_notes_73 : decode cX9_notes 73 = .ok (.return_, 1) := by decide +kernel
theorem dX9_suck_0 : decode cX9_suck 0 = .ok (.aload_n 0, 1) := by decide +kernel
theorem dX9_suck_1 : decode cX9_suck 1 = .ok (.iload_n 1, 1) := by decide +kernel
theorem dX9_suck_2 : decode cX9_suck 2 = .ok (.invokevirtual 184, 3) := by decide +kernel
theorem dX9_suck_5 : decode cX9_suck 5 = .ok (.ifCond .eq 13, 3) := by decide +kernel
theorem dX9_suck_8 : decode cX9_suck 8 = .ok (.iload_n 2, 1) := by decide +kernel
theorem dX9_suck_9 : decode cX9_suck 9 = .ok (.iconst 1, 1) := by decide +kernel
theorem dX9_suck_10 : decode cX9_suck 10 = .ok (.bipush 9, 2) := by decide +kernel
theorem dX9_suck_12 : decode cX9_suck 12 = .ok (.invokestatic 15, 3) := by decide +kernel
theorem dX9_suck_15 : decode cX9_suck 15 = .ok (.ifCond .ne 8, 3) := by decide +kernel
theorem dX9_suck_18 : decode cX9_suck 18 = .ok (.aload_n 0, 1) := by decide +kernel
theorem dX9_suck_19 : decode cX9_suck 19 = .ok (.invokevirtual 110, 3) := by decide +kernel
theorem dX9_suck_22 : decode cX9_suck 22 = .ok (.ireturn, 1) := by decide +kernel
theorem dX9_suck_23 : decode cX9_suck 23 = .ok (.aload_n 0, 1) := by decide +kernel
theorem dX9_suck_24 : decode cX9_suck 24 = .ok (.invokevirtual 187, 3) := by decide +kernel
theorem dX9_suck_27 : decode cX9_suck 27 = .ok (.aload_n 0, 1) := by decide +kernel
theorem dX9_suck_28 : decode cX9_suck 28 = .ok (.getfield 47, 3) := by decide +kernel
theorem dX9_suck_31 : decode cX9_suck 31 = .ok (.iload_n 1, 1) := by decide +kernel
theorem dX9_suck_32 : decode cX9_suck 32 = .ok (.bipush 9, 2) := by decide +kernel
theorem dX9_suck_34 : decode cX9_suck 34 = .ok (.aload_n 0, 1) := by decide +kernel
theorem dX9_suck_35 : decode cX9_suck 35 = .ok (.getfield 47, 3) := by decide +kernel
theorem dX9_suck_38 : decode cX9_suck 38 = .ok (.iload_n 1, 1) := by decide +kernel
theorem dX9_suck_39 : decode cX9_suck 39 = .ok (.iaload, 1) := by decide +kernel
theorem dX9_suck_40 : decode cX9_suck 40 = .ok (.iload_n 2, 1) := by decide +kernel
theorem dX9_suck_41 : decode cX9_suck 41 = .ok (.iadd, 1) := by decide +kernel
theorem dX9_suck_42 : decode cX9_suck 42 = .ok (.invokestatic 159, 3) := by decide +kernel
theorem dX9_suck_45 : decode cX9_suck 45 = .ok (.iastore, 1) := by decide +kernel
theorem dX9_suck_46 : decode cX9_suck 46 = .ok (.aload_n 0, 1) := by decide +kernel
theorem dX9_suck_47 : decode cX9_suck 47 = .ok (.getfield 47, 3) := by decide +kernel
theorem dX9_suck_50 : decode cX9_suck 50 = .ok (.iload_n 1, 1) := by decide +kernel
theorem dX9_suck_51 : decode cX9_suck 51 = .ok (.iaload, 1) := by decide +kernel
theorem dX9_suck_52 : decode cX9_suck 52 = .ok (.ireturn, 1) := by decide +kernel
theorem dX9_snap_0 : decode cX9_snap 0 = .ok (.aload_n 0, 1) := by decide +kernel
theorem dX9_snap_1 : decode cX9_snap 1 = .ok (.iload_n 1, 1) := by decide +kernel
theorem dX9_snap_2 : decode cX9_snap 2 = .ok (.invokevirtual 184, 3) := by decide +kernel
theorem dX9_snap_5 : decode cX9_snap 5 = .ok (.ifCond .eq 13, 3) := by decide +kernel
theorem dX9_snap_8 : decode cX9_snap 8 = .ok (.iload_n 2, 1) := by decide +kernel
theorem dX9_snap_9 : decode cX9_snap 9 = .ok (.iconst 1, 1) := by decide +kernel
theorem dX9_snap_10 : decode cX9_snap 10 = .ok (.bipush 8, 2) := by decide +kernel
theorem dX9_snap_12 : decode cX9_snap 12 = .ok (.invokestatic 15, 3) := by decide +kernel
theorem dX9_snap_15 : decode cX9_snap 15 = .ok (.ifCond .ne 8, 3) := by decide +kernel
theorem dX9_snap_18 : decode cX9_snap 18 = .ok (.aload_n 0, 1) := by decide +kernel
theorem dX9_snap_19 : decode cX9_snap 19 = .ok (.invokevirtual 110, 3) := by decide +kernel
theorem dX9_snap_22 : decode cX9_snap 22 = .ok (.ireturn, 1) := by decide +kernel
theorem dX9_snap_23 : decode cX9_snap 23 = .ok (.iload_n 2, 1) := by decide +kernel
theorem dX9_snap_24 : decode cX9_snap 24 = .ok (.aload_n 0, 1) := by decide +kernel
theorem dX9_snap_25 : decode cX9_snap 25 = .ok (.getfield 44, 3) := by decide +kernel
theorem dX9_snap_28 : decode cX9_snap 28 = .ok (.iload_n 1, 1) := by decide +kernel
theorem dX9_snap_29 : decode cX9_snap 29 = .ok (.iaload, 1) := by decide +kernel
theorem dX9_snap_30 : decode cX9_snap 30 = .ok (.if_icmp .lt 8, 3) := by decide +kernel
theorem dX9_snap_33 : decode cX9_snap 33 = .ok (.aload_n 0, 1) := by decide +kernel
theorem dX9_snap_34 : decode cX9_snap 34 = .ok (.invokevirtual 190, 3) := by decide +kernel
theorem dX9_snap_37 : decode cX9_snap 37 = .ok (.ireturn, 1) := by decide +kernel
theorem dX9_snap_38 : decode cX9_snap 38 = .ok (.aload_n 0, 1) := by decide +kernel
theorem dX9_snap_39 : decode cX9_snap 39 = .ok (.invokevirtual 187, 3) := by decide +kernel
theorem dX9_snap_42 : decode cX9_snap 42 = .ok (.aload_n 0, 1) := by decide +kernel
theorem dX9_snap_43 : decode cX9_snap 43 = .ok (.getfield 44, 3) := by decide +kernel
theorem dX9_snap_46 : decode cX9_snap 46 = .ok (.iload_n 1, 1) := by decide +kernel
theorem dX9_snap_47 : decode cX9_snap 47 = .ok (.iload_n 2, 1) := by decide +kernel
theorem dX9_snap_48 : decode cX9_snap 48 = .ok (.iastore, 1) := by decide +kernel
theorem dX9_snap_49 : decode cX9_snap 49 = .ok (.aload_n 0, 1) := by decide +kernel
theorem dX9_snap_50 : decode cX9_snap 50 = .ok (.iload_n 1, 1) := by decide +kernel
theorem dX9_snap_51 : decode cX9_snap 51 = .ok (.iload_n 2, 1) := by decide +kernel
theorem dX9_snap_52 : decode cX9_snap 52 = .ok (.iconst 1, 1) := by decide +kernel
theorem dX9_snap_53 : decode cX9_snap 53 = .ok (.isub, 1) := by decide +kernel
theorem dX9_snap_54 : decode cX9_snap 54 = .ok (.invokevirtual 193, 3) := by decide +kernel
theorem dX9_snap_57 : decode cX9_snap 57 = .ok (.ireturn, 1) := by decide +kernel
theorem dX9_both_0 : decode cX9_both 0 = .ok (.iconst 0, 1) := by decide +kernel
theorem dX9_both_1 : decode cX9_both 1 = .ok (.istore_n 2, 1) := by decide +kernel
theorem dX9_both_2 : decode cX9_both 2 = .ok (.iload_n 0, 1) := by decide +kernel
theorem dX9_both_3 : decode cX9_both 3 = .ok (.invokestatic 7, 3) := by decide +kernel
theorem dX9_both_6 : decode cX9_both 6 = .ok (.iload_n 1, 1) := by decide +kernel
theorem dX9_both_7 : decode cX9_both 7 = .ok (.invokestatic 7, 3) := by decide +kernel
theorem dX9_both_10 : decode cX9_both 10 = .ok (.invokestatic 196, 3) := by decide +kernel
theorem dX9_both_13 : decode cX9_both 13 = .ok (.istore_n 3, 1) := by decide +kernel
theorem dX9_both_14 : decode cX9_both 14 = .ok (.iconst 0, 1) := by decide +kernel
theorem dX9_both_15 : decode cX9_both 15 = .ok (.istore 4, 2) := by decide +kernel
theorem dX9_both_17 : decode cX9_both 17 = .ok (.iload 4, 2) := by decide +kernel
theorem dX9_both_19 : decode cX9_both 19 = .ok (.iload_n 3, 1) := by decide +kernel
theorem dX9_both_20 : decode cX9_both 20 = .ok (.if_icmp .ge 30, 3) := by decide +kernel
theorem dX9_both_23 : decode cX9_both 23 = .ok (.bipush 10, 2) := by decide +kernel
theorem dX9_both_25 : decode cX9_both 25 = .ok (.iload_n 2, 1) := by decide +kernel
theorem dX9_both_26 : decode cX9_both 26 = .ok (.imul, 1) := by decide +kernel
theorem dX9_both_27 : decode cX9_both 27 = .ok (.iload_n 0, 1) := by decide +kernel
theorem dX9_both_28 : decode cX9_both 28 = .ok (.iload 4, 2) := by decide +kernel
theorem dX9_both_30 : decode cX9_both 30 = .ok (.invokestatic 11, 3) := by decide +kernel
theorem dX9_both_33 : decode cX9_both 33 = .ok (.iload_n 1, 1) := by decide +kernel
theorem dX9_both_34 : decode cX9_both 34 = .ok (.iload 4, 2) := by decide +kernel
theorem dX9_both_36 : decode cX9_both 36 = .ok (.invokestatic 11, 3) := by decide +kernel
theorem dX9_both_39 : decode cX9_both 39 = .ok (.invokestatic 196, 3) := by decide +kernel
theorem dX9_both_42 : decode cX9_both 42 = .ok (.iadd, 1) := by decide +kernel
theorem dX9_both_43 : decode cX9_both 43 = .ok (.istore_n 2, 1) := by decide +kernel
theorem dX9_both_44 : decode cX9_both 44 = .ok (.iinc 4 1, 3) := by decide +kernel
theorem dX9_both_47 : decode cX9_both 47 = .ok (.goto (-30), 3) := by decide +kernel
theorem dX9_both_50 : decode cX9_both 50 = .ok (.iload_n 2, 1) := by decide +kernel
theorem dX9_both_51 : decode cX9_both 51 = .ok (.ireturn, 1) := by decide +kernel
theorem dX9_lays_0 : decode cX9_lays 0 = .ok (.aload_n 0, 1) := by decide +kernel
theorem dX9_lays_1 : decode cX9_lays 1 = .ok (.iload_n 1, 1) := by decide +kernel
theorem dX9_lays_2 : decode cX9_lays 2 = .ok (.invokevirtual 184, 3) := by decide +kernel
theorem dX9_lays_5 : decode cX9_lays 5 = .ok (.ifCond .eq 16, 3) := by decide +kernel
theorem dX9_lays_8 : decode cX9_lays 8 = .ok (.aload_n 0, 1) := by decide +kernel
theorem dX9_lays_9 : decode cX9_lays 9 = .ok (.iload_n 2, 1) := by decide +kernel
theorem dX9_lays_10 : decode cX9_lays 10 = .ok (.invokevirtual 184, 3) := by decide +kernel
theorem dX9_lays_13 : decode cX9_lays 13 = .ok (.ifCond .eq 8, 3) := by decide +kernel
theorem dX9_lays_16 : decode cX9_lays 16 = .ok (.iload_n 1, 1) := by decide +kernel
theorem dX9_lays_17 : decode cX9_lays 17 = .ok (.iload_n 2, 1) := by decide +kernel
theorem dX9_lays_18 : decode cX9_lays 18 = .ok (.if_icmp .ne 8, 3) := by decide +kernel
theorem dX9_lays_21 : decode cX9_lays 21 = .ok (.aload_n 0, 1) := by decide +kernel
theorem dX9_lays_22 : decode cX9_lays 22 = .ok (.invokevirtual 110, 3) := by decide +kernel
theorem dX9_lays_25 : decode cX9_lays 25 = .ok (.ireturn, 1) := by decide +kernel
theorem dX9_lays_26 : decode cX9_lays 26 = .ok (.aload_n 0, 1) := by decide +kernel
theorem dX9_lays_27 : decode cX9_lays 27 = .ok (.invokevirtual 187, 3) := by decide +kernel
theorem dX9_lays_30 : decode cX9_lays 30 = .ok (.iload_n 1, 1) := by decide +kernel
theorem dX9_lays_31 : decode cX9_lays 31 = .ok (.iload_n 2, 1) := by decide +kernel
theorem dX9_lays_32 : decode cX9_lays 32 = .ok (.invokestatic 159, 3) := by decide +kernel
theorem dX9_lays_35 : decode cX9_lays 35 = .ok (.istore_n 3, 1) := by decide +kernel
theorem dX9_lays_36 : decode cX9_lays 36 = .ok (.iload_n 1, 1) := by decide +kernel
theorem dX9_lays_37 : decode cX9_lays 37 = .ok (.iload_n 2, 1) := by decide +kernel
theorem dX9_lays_38 : decode cX9_lays 38 = .ok (.invokestatic 196, 3) := by decide +kernel
theorem dX9_lays_41 : decode cX9_lays 41 = .ok (.istore 4, 2) := by decide +kernel
theorem dX9_lays_43 : decode cX9_lays 43 = .ok (.aload_n 0, 1) := by decide +kernel
theorem dX9_lays_44 : decode cX9_lays 44 = .ok (.getfield 41, 3) := by decide +kernel
theorem dX9_lays_47 : decode cX9_lays 47 = .ok (.iload_n 3, 1) := by decide +kernel
theorem dX9_lays_48 : decode cX9_lays 48 = .ok (.aload_n 0, 1) := by decide +kernel
theorem dX9_lays_49 : decode cX9_lays 49 = .ok (.getfield 41, 3) := by decide +kernel
theorem dX9_lays_52 : decode cX9_lays 52 = .ok (.iload_n 1, 1) := by decide +kernel
theorem dX9_lays_53 : decode cX9_lays 53 = .ok (.iaload, 1) := by decide +kernel
theorem dX9_lays_54 : decode cX9_lays 54 = .ok (.aload_n 0, 1) := by decide +kernel
theorem dX9_lays_55 : decode cX9_lays 55 = .ok (.getfield 41, 3) := by decide +kernel
theorem dX9_lays_58 : decode cX9_lays 58 = .ok (.iload_n 2, 1) := by decide +kernel
theorem dX9_lays_59 : decode cX9_lays 59 = .ok (.iaload, 1) := by decide +kernel
theorem dX9_lays_60 : decode cX9_lays 60 = .ok (.invokestatic 199, 3) := by decide +kernel
theorem dX9_lays_63 : decode cX9_lays 63 = .ok (.iastore, 1) := by decide +kernel
theorem dX9_lays_64 : decode cX9_lays 64 = .ok (.aload_n 0, 1) := by decide +kernel
theorem dX9_lays_65 : decode cX9_lays 65 = .ok (.getfield 47, 3) := by decide +kernel
theorem dX9_lays_68 : decode cX9_lays 68 = .ok (.iload_n 3, 1) := by decide +kernel
theorem dX9_lays_69 : decode cX9_lays 69 = .ok (.aload_n 0, 1) := by decide +kernel
theorem dX9_lays_70 : decode cX9_lays 70 = .ok (.getfield 47, 3) := by decide +kernel
theorem dX9_lays_73 : decode cX9_lays 73 = .ok (.iload_n 1, 1) := by decide +kernel
theorem dX9_lays_74 : decode cX9_lays 74 = .ok (.iaload, 1) := by decide +kernel
theorem dX9_lays_75 : decode cX9_lays 75 = .ok (.aload_n 0, 1) := by decide +kernel
theorem dX9_lays_76 : decode cX9_lays 76 = .ok (.getfield 47, 3) := by decide +kernel
theorem dX9_lays_79 : decode cX9_lays 79 = .ok (.iload_n 2, 1) := by decide +kernel
theorem dX9_lays_80 : decode cX9_lays 80 = .ok (.iaload, 1) := by decide +kernel
theorem dX9_lays_81 : decode cX9_lays 81 = .ok (.invokestatic 196, 3) := by decide +kernel
theorem dX9_lays_84 : decode cX9_lays 84 = .ok (.iastore, 1) := by decide +kernel
theorem dX9_lays_85 : decode cX9_lays 85 = .ok (.aload_n 0, 1) := by decide +kernel
theorem dX9_lays_86 : decode cX9_lays 86 = .ok (.dup, 1) := by decide +kernel
theorem dX9_lays_87 : decode cX9_lays 87 = .ok (.getfield 96, 3) := by decide +kernel
theorem dX9_lays_90 : decode cX9_lays 90 = .ok (.iconst 1, 1) := by decide +kernel
theorem dX9_lays_91 : decode cX9_lays 91 = .ok (.isub, 1) := by decide +kernel
theorem dX9_lays_92 : decode cX9_lays 92 = .ok (.putfield 96, 3) := by decide +kernel
theorem dX9_lays_95 : decode cX9_lays 95 = .ok (.iload 4, 2) := by decide +kernel
theorem dX9_lays_97 : decode cX9_lays 97 = .ok (.istore 5, 2) := by decide +kernel
theorem dX9_lays_99 : decode cX9_lays 99 = .ok (.iload 5, 2) := by decide +kernel
theorem dX9_lays_101 : decode cX9_lays 101 = .ok (.aload_n 0, 1) := by decide +kernel
theorem dX9_lays_102 : decode cX9_lays 102 = .ok (.getfield 96, 3) := by decide +kernel
theorem dX9_lays_105 : decode cX9_lays 105 = .ok (.if_icmp .ge 73, 3) := by decide +kernel
theorem dX9_lays_108 : decode cX9_lays 108 = .ok (.aload_n 0, 1) := by decide +kernel
theorem dX9_lays_109 : decode cX9_lays 109 = .ok (.getfield 38, 3) := by decide +kernel
theorem dX9_lays_112 : decode cX9_lays 112 = .ok (.iload 5, 2) := by decide +kernel
theorem dX9_lays_114 : decode cX9_lays 114 = .ok (.aload_n 0, 1) := by decide +kernel
theorem dX9_lays_115 : decode cX9_lays 115 = .ok (.getfield 38, 3) := by decide +kernel
theorem dX9_lays_118 : decode cX9_lays 118 = .ok (.iload 5, 2) := by decide +kernel
theorem dX9_lays_120 : decode cX9_lays 120 = .ok (.iconst 1, 1) := by decide +kernel
theorem dX9_lays_121 : decode cX9_lays 121 = .ok (.iadd, 1) := by decide +kernel
theorem dX9_lays_122 : decode cX9_lays 122 = .ok (.iaload, 1) := by decide +kernel
theorem dX9_lays_123 : decode cX9_lays 123 = .ok (.iastore, 1) := by decide +kernel
theorem dX9_lays_124 : decode cX9_lays 124 = .ok (.aload_n 0, 1) := by decide +kernel
theorem dX9_lays_125 : decode cX9_lays 125 = .ok (.getfield 41, 3) := by decide +kernel
theorem dX9_lays_128 : decode cX9_lays 128 = .ok (.iload 5, 2) := by decide +kernel
theorem dX9_lays_130 : decode cX9_lays 130 = .ok (.aload_n 0, 1) := by decide +kernel
theorem dX9_lays_131 : decode cX9_lays 131 = .ok (.getfield 41, 3) := by decide +kernel
theorem dX9_lays_134 : decode cX9_lays 134 = .ok (.iload 5, 2) := by decide +kernel
theorem dX9_lays_136 : decode cX9_lays 136 = .ok (.iconst 1, 1) := by decide +kernel
theorem dX9_lays_137 : decode cX9_lays 137 = .ok (.iadd, 1) := by decide +kernel
theorem dX9_lays_138 : decode cX9_lays 138 = .ok (.iaload, 1) := by decide +kernel
theorem dX9_lays_139 : decode cX9_lays 139 = .ok (.iastore, 1) := by decide +kernel
theorem dX9_lays_140 : decode cX9_lays 140 = .ok (.aload_n 0, 1) := by decide +kernel
theorem dX9_lays_141 : decode cX9_lays 141 = .ok (.getfield 44, 3) := by decide +kernel
theorem dX9_lays_144 : decode cX9_lays 144 = .ok (.iload 5, 2) := by decide +kernel
theorem dX9_lays_146 : decode cX9_lays 146 = .ok (.aload_n 0, 1) := by decide +kernel
theorem dX9_lays_147 : decode cX9_lays 147 = .ok (.getfield 44, 3) := by decide +kernel
theorem dX9_lays_150 : decode cX9_lays 150 = .ok (.iload 5, 2) := by decide +kernel
theorem dX9_lays_152 : decode cX9_lays 152 = .ok (.iconst 1, 1) := by decide +kernel
theorem dX9_lays_153 : decode cX9_lays 153 = .ok (.iadd, 1) := by decide +kernel
theorem dX9_lays_154 : decode cX9_lays 154 = .ok (.iaload, 1) := by decide +kernel
theorem dX9_lays_155 : decode cX9_lays 155 = .ok (.iastore, 1) := by decide +kernel
theorem dX9_lays_156 : decode cX9_lays 156 = .ok (.aload_n 0, 1) := by decide +kernel
theorem dX9_lays_157 : decode cX9_lays 157 = .ok (.getfield 47, 3) := by decide +kernel
theorem dX9_lays_160 : decode cX9_lays 160 = .ok (.iload 5, 2) := by decide +kernel
theorem dX9_lays_162 : decode cX9_lays 162 = .ok (.aload_n 0, 1) := by decide +kernel
theorem dX9_lays_163 : decode cX9_lays 163 = .ok (.getfield 47, 3) := by decide +kernel
theorem dX9_lays_166 : decode cX9_lays 166 = .ok (.iload 5, 2) := by decide +kernel
theorem dX9_lays_168 : decode cX9_lays 168 = .ok (.iconst 1, 1) := by decide +kernel
theorem dX9_lays_169 : decode cX9_lays 169 = .ok (.iadd, 1) := by decide +kernel
theorem dX9_lays_170 : decode cX9_lays 170 = .ok (.iaload, 1) := by decide +kernel
theorem dX9_lays_171 : decode cX9_lays 171 = .ok (.iastore, 1) := by decide +kernel
theorem dX9_lays_172 : decode cX9_lays 172 = .ok (.iinc 5 1, 3) := by decide +kernel
theorem dX9_lays_175 : decode cX9_lays 175 = .ok (.goto (-76), 3) := by decide +kernel
theorem dX9_lays_178 : decode cX9_lays 178 = .ok (.aload_n 0, 1) := by decide +kernel
theorem dX9_lays_179 : decode cX9_lays 179 = .ok (.iconst 0, 1) := by decide +kernel
theorem dX9_lays_180 : decode cX9_lays 180 = .ok (.putfield 100, 3) := by decide +kernel
theorem dX9_lays_183 : decode cX9_lays 183 = .ok (.iload_n 3, 1) := by decide +kernel
theorem dX9_lays_184 : decode cX9_lays 184 = .ok (.ireturn, 1) := by decide +kernel
theorem dX9_undo_0 : decode cX9_undo 0 = .ok (.aload_n 0, 1) := by decide +kernel
theorem dX9_undo_1 : decode cX9_undo 1 = .ok (.getfield 103, 3) := by decide +kernel
theorem dX9_undo_4 : decode cX9_undo 4 = .ok (.ifCond .ne 8, 3) := by decide +kernel
theorem dX9_undo_7 : decode cX9_undo 7 = .ok (.aload_n 0, 1) := by decide +kernel
theorem dX9_undo_8 : decode cX9_undo 8 = .ok (.invokevirtual 190, 3) := by decide +kernel
theorem dX9_undo_11 : decode cX9_undo 11 = .ok (.ireturn, 1) := by decide +kernel
theorem dX9_undo_12 : decode cX9_undo 12 = .ok (.aload_n 0, 1) := by decide +kernel
theorem dX9_undo_13 : decode cX9_undo 13 = .ok (.dup, 1) := by decide +kernel
theorem dX9_undo_14 : decode cX9_undo 14 = .ok (.getfield 103, 3) := by decide +kernel
theorem dX9_undo_17 : decode cX9_undo 17 = .ok (.iconst 1, 1) := by decide +kernel
theorem dX9_undo_18 : decode cX9_undo 18 = .ok (.isub, 1) := by decide +kernel
theorem dX9_undo_19 : decode cX9_undo 19 = .ok (.putfield 103, 3) := by decide +kernel
theorem dX9_undo_22 : decode cX9_undo 22 = .ok (.aload_n 0, 1) := by decide +kernel
theorem dX9_undo_23 : decode cX9_undo 23 = .ok (.aload_n 0, 1) := by decide +kernel
theorem dX9_undo_24 : decode cX9_undo 24 = .ok (.getfield 68, 3) := by decide +kernel
theorem dX9_undo_27 : decode cX9_undo 27 = .ok (.bipush 25, 2) := by decide +kernel
theorem dX9_undo_29 : decode cX9_undo 29 = .ok (.aload_n 0, 1) := by decide +kernel
theorem dX9_undo_30 : decode cX9_undo 30 = .ok (.getfield 103, 3) := by decide +kernel
theorem dX9_undo_33 : decode cX9_undo 33 = .ok (.imul, 1) := by decide +kernel
theorem dX9_undo_34 : decode cX9_undo 34 = .ok (.invokevirtual 202, 3) := by decide +kernel
theorem dX9_undo_37 : decode cX9_undo 37 = .ok (.aload_n 0, 1) := by decide +kernel
theorem dX9_undo_38 : decode cX9_undo 38 = .ok (.getfield 96, 3) := by decide +kernel
theorem dX9_undo_41 : decode cX9_undo 41 = .ok (.ireturn, 1) := by decide +kernel
theorem dX9_of_0 : decode cX9_of 0 = .ok (.aload_n 0, 1) := by decide +kernel
theorem dX9_of_1 : decode cX9_of 1 = .ok (.iload_n 1, 1) := by decide +kernel
theorem dX9_of_2 : decode cX9_of 2 = .ok (.invokevirtual 184, 3) := by decide +kernel
theorem dX9_of_5 : decode cX9_of 5 = .ok (.ifCond .eq 12, 3) := by decide +kernel
theorem dX9_of_8 : decode cX9_of 8 = .ok (.iload_n 2, 1) := by decide +kernel
theorem dX9_of_9 : decode cX9_of 9 = .ok (.iconst 0, 1) := by decide +kernel
theorem dX9_of_10 : decode cX9_of 10 = .ok (.iconst 3, 1) := by decide +kernel
theorem dX9_of_11 : decode cX9_of 11 = .ok (.invokestatic 15, 3) := by decide +kernel
theorem dX9_of_14 : decode cX9_of 14 = .ok (.ifCond .ne 8, 3) := by decide +kernel
theorem dX9_of_17 : decode cX9_of 17 = .ok (.aload_n 0, 1) := by decide +kernel
theorem dX9_of_18 : decode cX9_of 18 = .ok (.invokevirtual 110, 3) := by decide +kernel
theorem dX9_of_21 : decode cX9_of 21 = .ok (.ireturn, 1) := by decide +kernel
theorem dX9_of_22 : decode cX9_of 22 = .ok (.iload_n 2, 1) := by decide +kernel
theorem dX9_of_23 : decode cX9_of 23 = .ok (.ifCond .ne 12, 3) := by decide +kernel
theorem dX9_of_26 : decode cX9_of 26 = .ok (.aload_n 0, 1) := by decide +kernel
theorem dX9_of_27 : decode cX9_of 27 = .ok (.getfield 38, 3) := by decide +kernel
theorem dX9_of_30 : decode cX9_of 30 = .ok (.iload_n 1, 1) := by decide +kernel
theorem dX9_of_31 : decode cX9_of 31 = .ok (.iaload, 1) := by decide +kernel
theorem dX9_of_32 : decode cX9_of 32 = .ok (.goto 37, 3) := by decide +kernel
theorem dX9_of_35 : decode cX9_of 35 = .ok (.iload_n 2, 1) := by decide +kernel
theorem dX9_of_36 : decode cX9_of 36 = .ok (.iconst 1, 1) := by decide +kernel
theorem dX9_of_37 : decode cX9_of 37 = .ok (.if_icmp .ne 12, 3) := by decide +kernel
theorem dX9_of_40 : decode cX9_of 40 = .ok (.aload_n 0, 1) := by decide +kernel
theorem dX9_of_41 : decode cX9_of 41 = .ok (.getfield 41, 3) := by decide +kernel
theorem dX9_of_44 : decode cX9_of 44 = .ok (.iload_n 1, 1) := by decide +kernel
theorem dX9_of_45 : decode cX9_of 45 = .ok (.iaload, 1) := by decide +kernel
theorem dX9_of_46 : decode cX9_of 46 = .ok (.goto 23, 3) := by decide +kernel
theorem dX9_of_49 : decode cX9_of 49 = .ok (.iload_n 2, 1) := by decide +kernel
theorem dX9_of_50 : decode cX9_of 50 = .ok (.iconst 2, 1) := by decide +kernel
theorem dX9_of_51 : decode cX9_of 51 = .ok (.if_icmp .ne 12, 3) := by decide +kernel
theorem dX9_of_54 : decode cX9_of 54 = .ok (.aload_n 0, 1) := by decide +kernel
theorem dX9_of_55 : decode cX9_of 55 = .ok (.getfield 44, 3) := by decide +kernel
theorem dX9_of_58 : decode cX9_of 58 = .ok (.iload_n 1, 1) := by decide +kernel
theorem dX9_of_59 : decode cX9_of 59 = .ok (.iaload, 1) := by decide +kernel
theorem dX9_of_60 : decode cX9_of 60 = .ok (.goto 9, 3) := by decide +kernel
theorem dX9_of_63 : decode cX9_of 63 = .ok (.aload_n 0, 1) := by decide +kernel
theorem dX9_of_64 : decode cX9_of 64 = .ok (.getfield 47, 3) := by decide +kernel
theorem dX9_of_67 : decode cX9_of 67 = .ok (.iload_n 1, 1) := by decide +kernel
theorem dX9_of_68 : decode cX9_of 68 = .ok (.iaload, 1) := by decide +kernel
theorem dX9_of_69 : decode cX9_of 69 = .ok (.ireturn, 1) := by decide +kernel
theorem dX9_likeIt_0 : decode cX9_likeIt 0 = .ok (.iconst 0, 1) := by decide +kernel
theorem dX9_likeIt_1 : decode cX9_likeIt 1 = .ok (.istore_n 3, 1) := by decide +kernel
theorem dX9_likeIt_2 : decode cX9_likeIt 2 = .ok (.iconst 0, 1) := by decide +kernel
theorem dX9_likeIt_3 : decode cX9_likeIt 3 = .ok (.istore 4, 2) := by decide +kernel
theorem dX9_likeIt_5 : decode cX9_likeIt 5 = .ok (.iload 4, 2) := by decide +kernel
theorem dX9_likeIt_7 : decode cX9_likeIt 7 = .ok (.aload_n 0, 1) := by decide +kernel
theorem dX9_likeIt_8 : decode cX9_likeIt 8 = .ok (.getfield 96, 3) := by decide +kernel
theorem dX9_likeIt_11 : decode cX9_likeIt 11 = .ok (.if_icmp .ge 31, 3) := by decide +kernel
theorem dX9_likeIt_14 : decode cX9_likeIt 14 = .ok (.iload_n 3, 1) := by decide +kernel
theorem dX9_likeIt_15 : decode cX9_likeIt 15 = .ok (.aload_n 0, 1) := by decide +kernel
theorem dX9_likeIt_16 : decode cX9_likeIt 16 = .ok (.iload 4, 2) := by decide +kernel
theorem dX9_likeIt_18 : decode cX9_likeIt 18 = .ok (.iload_n 2, 1) := by decide +kernel
theorem dX9_likeIt_19 : decode cX9_likeIt 19 = .ok (.invokevirtual 193, 3) := by decide +kernel
theorem dX9_likeIt_22 : decode cX9_likeIt 22 = .ok (.iload_n 1, 1) := by decide +kernel
theorem dX9_likeIt_23 : decode cX9_likeIt 23 = .ok (.if_icmp .ne 10, 3) := by decide +kernel
theorem dX9_likeIt_26 : decode cX9_likeIt 26 = .ok (.iconst 1, 1) := by decide +kernel
theorem dX9_likeIt_27 : decode cX9_likeIt 27 = .ok (.iload 4, 2) := by decide +kernel
theorem dX9_likeIt_29 : decode cX9_likeIt 29 = .ok (.ishl, 1) := by decide +kernel
theorem dX9_likeIt_30 : decode cX9_likeIt 30 = .ok (.goto 4, 3) := by decide +kernel
theorem dX9_likeIt_33 : decode cX9_likeIt 33 = .ok (.iconst 0, 1) := by decide +kernel
theorem dX9_likeIt_34 : decode cX9_likeIt 34 = .ok (.ior, 1) := by decide +kernel
theorem dX9_likeIt_35 : decode cX9_likeIt 35 = .ok (.istore_n 3, 1) := by decide +kernel
theorem dX9_likeIt_36 : decode cX9_likeIt 36 = .ok (.iinc 4 1, 3) := by decide +kernel
theorem dX9_likeIt_39 : decode cX9_likeIt 39 = .ok (.goto (-34), 3) := by decide +kernel
theorem dX9_likeIt_42 : decode cX9_likeIt 42 = .ok (.iload_n 3, 1) := by decide +kernel
theorem dX9_likeIt_43 : decode cX9_likeIt 43 = .ok (.ireturn, 1) := by decide +kernel
theorem dX9_at_0 : decode cX9_at 0 = .ok (.aload_n 0, 1) := by decide +kernel
theorem dX9_at_1 : decode cX9_at 1 = .ok (.iload_n 1, 1) := by decide +kernel
theorem dX9_at_2 : decode cX9_at 2 = .ok (.invokevirtual 184, 3) := by decide +kernel
theorem dX9_at_5 : decode cX9_at 5 = .ok (.ifCond .eq 22, 3) := by decide +kernel
theorem dX9_at_8 : decode cX9_at 8 = .ok (.iload_n 2, 1) := by decide +kernel
theorem dX9_at_9 : decode cX9_at 9 = .ok (.iconst 0, 1) := by decide +kernel
theorem dX9_at_10 : decode cX9_at 10 = .ok (.bipush 8, 2) := by decide +kernel
theorem dX9_at_12 : decode cX9_at 12 = .ok (.invokestatic 15, 3) := by decide +kernel
theorem dX9_at_15 : decode cX9_at 15 = .ok (.ifCond .eq 12, 3) := by decide +kernel
theorem dX9_at_18 : decode cX9_at 18 = .ok (.iload_n 3, 1) := by decide +kernel
theorem dX9_at_19 : decode cX9_at 19 = .ok (.iconst 0, 1) := by decide +kernel
theorem dX9_at_20 : decode cX9_at 20 = .ok (.iconst 1, 1) := by decide +kernel
theorem dX9_at_21 : decode cX9_at 21 = .ok (.invokestatic 15, 3) := by decide +kernel
theorem dX9_at_24 : decode cX9_at 24 = .ok (.ifCond .ne 8, 3) := by decide +kernel
theorem dX9_at_27 : decode cX9_at 27 = .ok (.aload_n 0, 1) := by decide +kernel
theorem dX9_at_28 : decode cX9_at 28 = .ok (.invokevirtual 110, 3) := by decide +kernel
theorem dX9_at_31 : decode cX9_at 31 = .ok (.ireturn, 1) := by decide +kernel
theorem dX9_at_32 : decode cX9_at 32 = .ok (.iload_n 3, 1) := by decide +kernel
theorem dX9_at_33 : decode cX9_at 33 = .ok (.ifCond .ne 12, 3) := by decide +kernel
theorem dX9_at_36 : decode cX9_at 36 = .ok (.aload_n 0, 1) := by decide +kernel
theorem dX9_at_37 : decode cX9_at 37 = .ok (.iload_n 1, 1) := by decide +kernel
theorem dX9_at_38 : decode cX9_at 38 = .ok (.iload_n 2, 1) := by decide +kernel
theorem dX9_at_39 : decode cX9_at 39 = .ok (.invokevirtual 193, 3) := by decide +kernel
theorem dX9_at_42 : decode cX9_at 42 = .ok (.goto 14, 3) := by decide +kernel
theorem dX9_at_45 : decode cX9_at 45 = .ok (.aload_n 0, 1) := by decide +kernel
theorem dX9_at_46 : decode cX9_at 46 = .ok (.aload_n 0, 1) := by decide +kernel
theorem dX9_at_47 : decode cX9_at 47 = .ok (.iload_n 1, 1) := by decide +kernel
theorem dX9_at_48 : decode cX9_at 48 = .ok (.iload_n 2, 1) := by decide +kernel
theorem dX9_at_49 : decode cX9_at 49 = .ok (.invokevirtual 193, 3) := by decide +kernel
theorem dX9_at_52 : decode cX9_at 52 = .ok (.iload_n 2, 1) := by decide +kernel
theorem dX9_at_53 : decode cX9_at 53 = .ok (.invokevirtual 205, 3) := by decide +kernel
theorem dX9_at_56 : decode cX9_at 56 = .ok (.ireturn, 1) := by decide +kernel
theorem dX9_unlikeAt_0 : decode cX9_unlikeAt 0 = .ok (.iconst 0, 1) := by decide +kernel
theorem dX9_unlikeAt_1 : decode cX9_unlikeAt 1 = .ok (.istore_n 2, 1) := by decide +kernel
theorem dX9_unlikeAt_2 : decode cX9_unlikeAt 2 = .ok (.iconst 0, 1) := by decide +kernel
theorem dX9_unlikeAt_3 : decode cX9_unlikeAt 3 = .ok (.istore_n 3, 1) := by decide +kernel
theorem dX9_unlikeAt_4 : decode cX9_unlikeAt 4 = .ok (.iload_n 3, 1) := by decide +kernel
theorem dX9_unlikeAt_5 : decode cX9_unlikeAt 5 = .ok (.aload_n 0, 1) := by decide +kernel
theorem dX9_unlikeAt_6 : decode cX9_unlikeAt 6 = .ok (.getfield 96, 3) := by decide +kernel
theorem dX9_unlikeAt_9 : decode cX9_unlikeAt 9 = .ok (.if_icmp .ge 68, 3) := by decide +kernel
theorem dX9_unlikeAt_12 : decode cX9_unlikeAt 12 = .ok (.iconst 1, 1) := by decide +kernel
theorem dX9_unlikeAt_13 : decode cX9_unlikeAt 13 = .ok (.istore 4, 2) := by decide +kernel
theorem dX9_unlikeAt_15 : decode cX9_unlikeAt 15 = .ok (.iconst 0, 1) := by decide +kernel
theorem dX9_unlikeAt_16 : decode cX9_unlikeAt 16 = .ok (.istore 5, 2) := by decide +kernel
theorem dX9_unlikeAt_18 : decode cX9_unlikeAt 18 = .ok (.iload 5, 2) := by decide +kernel
theorem dX9_unlikeAt_20 : decode cX9_unlikeAt 20 = .ok (.iload_n 3, 1) := by decide +kernel
theorem dX9_unlikeAt_21 : decode cX9_unlikeAt 21 = .ok (.if_icmp .ge 37, 3) := by decide +kernel
theorem dX9_unlikeAt_24 : decode cX9_unlikeAt 24 = .ok (.iload 4, 2) := by decide +kernel
theorem dX9_unlikeAt_26 : decode cX9_unlikeAt 26 = .ok (.ifCond .eq 23, 3) := by decide +kernel
theorem dX9_unlikeAt_29 : decode cX9_unlikeAt 29 = .ok (.aload_n 0, 1) := by decide +kernel
theorem dX9_unlikeAt_30 : decode cX9_unlikeAt 30 = .ok (.iload_n 3, 1) := by decide +kernel
theorem dX9_unlikeAt_31 : decode cX9_unlikeAt 31 = .ok (.iload_n 1, 1) := by decide +kernel
theorem dX9_unlikeAt_32 : decode cX9_unlikeAt 32 = .ok (.invokevirtual 193, 3) := by decide +kernel
theorem dX9_unlikeAt_35 : decode cX9_unlikeAt 35 = .ok (.aload_n 0, 1) := by decide +kernel
theorem dX9_unlikeAt_36 : decode cX9_unlikeAt 36 = .ok (.iload 5, 2) := by decide +kernel
theorem dX9_unlikeAt_38 : decode cX9_unlikeAt 38 = .ok (.iload_n 1, 1) := by decide +kernel
theorem dX9_unlikeAt_39 : decode cX9_unlikeAt 39 = .ok (.invokevirtual 193, 3) := by decide +kernel
theorem dX9_unlikeAt_42 : decode cX9_unlikeAt 42 = .ok (.if_icmp .eq 7, 3) := by decide +kernel
theorem dX9_unlikeAt_45 : decode cX9_unlikeAt 45 = .ok (.iconst 1, 1) := by decide +kernel
theorem dX9_unlikeAt_46 : decode cX9_unlikeAt 46 = .ok (.goto 4, 3) := by decide +kernel
theorem dX9_unlikeAt_49 : decode cX9_unlikeAt 49 = .ok (.iconst 0, 1) := by decide +kernel
theorem dX9_unlikeAt_50 : decode cX9_unlikeAt 50 = .ok (.istore 4, 2) := by decide +kernel
theorem dX9_unlikeAt_52 : decode cX9_unlikeAt 52 = .ok (.iinc 5 1, 3) := by decide +kernel
theorem dX9_unlikeAt_55 : decode cX9_unlikeAt 55 = .ok (.goto (-37), 3) := by decide +kernel
theorem dX9_unlikeAt_58 : decode cX9_unlikeAt 58 = .ok (.iload_n 2, 1) := by decide +kernel
theorem dX9_unlikeAt_59 : decode cX9_unlikeAt 59 = .ok (.iload 4, 2) := by decide +kernel
theorem dX9_unlikeAt_61 : decode cX9_unlikeAt 61 = .ok (.ifCond .eq 7, 3) := by decide +kernel
theorem dX9_unlikeAt_64 : decode cX9_unlikeAt 64 = .ok (.iconst 1, 1) := by decide +kernel
theorem dX9_unlikeAt_65 : decode cX9_unlikeAt 65 = .ok (.goto 4, 3) := by decide +kernel
theorem dX9_unlikeAt_68 : decode cX9_unlikeAt 68 = .ok (.iconst 0, 1) := by decide +kernel
theorem dX9_unlikeAt_69 : decode cX9_unlikeAt 69 = .ok (.iadd, 1) := by decide +kernel
theorem dX9_unlikeAt_70 : decode cX9_unlikeAt 70 = .ok (.istore_n 2, 1) := by decide +kernel
theorem dX9_unlikeAt_71 : decode cX9_unlikeAt 71 = .ok (.iinc 3 1, 3) := by decide +kernel
theorem dX9_unlikeAt_74 : decode cX9_unlikeAt 74 = .ok (.goto (-70), 3) := by decide +kernel
theorem dX9_unlikeAt_77 : decode cX9_unlikeAt 77 = .ok (.iload_n 2, 1) := by decide +kernel
theorem dX9_unlikeAt_78 : decode cX9_unlikeAt 78 = .ok (.ireturn, 1) := by decide +kernel
theorem dX9_told_0 : decode cX9_told 0 = .ok (.iload_n 1, 1) := by decide +kernel
theorem dX9_told_1 : decode cX9_told 1 = .ok (.iconst 0, 1) := by decide +kernel
theorem dX9_told_2 : decode cX9_told 2 = .ok (.iconst 1, 1) := by decide +kernel
theorem dX9_told_3 : decode cX9_told 3 = .ok (.invokestatic 15, 3) := by decide +kernel
theorem dX9_told_6 : decode cX9_told 6 = .ok (.ifCond .ne 8, 3) := by decide +kernel
theorem dX9_told_9 : decode cX9_told 9 = .ok (.aload_n 0, 1) := by decide +kernel
theorem dX9_told_10 : decode cX9_told 10 = .ok (.invokevirtual 110, 3) := by decide +kernel
theorem dX9_told_13 : decode cX9_told 13 = .ok (.ireturn, 1) := by decide +kernel
theorem dX9_told_14 : decode cX9_told 14 = .ok (.iconst 0, 1) := by decide +kernel
theorem dX9_told_15 : decode cX9_told 15 = .ok (.istore_n 2, 1) := by decide +kernel
theorem dX9_told_16 : decode cX9_told 16 = .ok (.iconst 1, 1) := by decide +kernel
theorem dX9_told_17 : decode cX9_told 17 = .ok (.istore_n 3, 1) := by decide +kernel
theorem dX9_told_18 : decode cX9_told 18 = .ok (.iload_n 3, 1) := by decide +kernel
theorem dX9_told_19 : decode cX9_told 19 = .ok (.bipush 9, 2) := by decide +kernel
theorem dX9_told_21 : decode cX9_told 21 = .ok (.if_icmp .ge 28, 3) := by decide +kernel
theorem dX9_told_24 : decode cX9_told 24 = .ok (.aload_n 0, 1) := by decide +kernel
theorem dX9_told_25 : decode cX9_told 25 = .ok (.iload_n 3, 1) := by decide +kernel
theorem dX9_told_26 : decode cX9_told 26 = .ok (.invokevirtual 208, 3) := by decide +kernel
theorem dX9_told_29 : decode cX9_told 29 = .ok (.aload_n 0, 1) := by decide +kernel
theorem dX9_told_30 : decode cX9_told 30 = .ok (.iload_n 2, 1) := by decide +kernel
theorem dX9_told_31 : decode cX9_told 31 = .ok (.invokevirtual 208, 3) := by decide +kernel
theorem dX9_told_34 : decode cX9_told 34 = .ok (.if_icmp .le 7, 3) := by decide +kernel
theorem dX9_told_37 : decode cX9_told 37 = .ok (.iload_n 3, 1) := by decide +kernel
theorem dX9_told_38 : decode cX9_told 38 = .ok (.goto 4, 3) := by decide +kernel
theorem dX9_told_41 : decode cX9_told 41 = .ok (.iload_n 2, 1) := by decide +kernel
theorem dX9_told_42 : decode cX9_told 42 = .ok (.istore_n 2, 1) := by decide +kernel
theorem dX9_told_43 : decode cX9_told 43 = .ok (.iinc 3 1, 3) := by decide +kernel
theorem dX9_told_46 : decode cX9_told 46 = .ok (.goto (-28), 3) := by decide +kernel
theorem dX9_told_49 : decode cX9_told 49 = .ok (.iload_n 1, 1) := by decide +kernel
theorem dX9_told_50 : decode cX9_told 50 = .ok (.ifCond .ne 7, 3) := by decide +kernel
theorem dX9_told_53 : decode cX9_told 53 = .ok (.iload_n 2, 1) := by decide +kernel
theorem dX9_told_54 : decode cX9_told 54 = .ok (.goto 8, 3) := by decide +kernel
theorem dX9_told_57 : decode cX9_told 57 = .ok (.aload_n 0, 1) := by decide +kernel
theorem dX9_told_58 : decode cX9_told 58 = .ok (.iload_n 2, 1) := by decide +kernel
theorem dX9_told_59 : decode cX9_told 59 = .ok (.invokevirtual 208, 3) := by decide +kernel
theorem dX9_told_62 : decode cX9_told 62 = .ok (.ireturn, 1) := by decide +kernel
theorem dX9_sucks_0 : decode cX9_sucks 0 = .ok (.aload_n 0, 1) := by decide +kernel
theorem dX9_sucks_1 : decode cX9_sucks 1 = .ok (.iload_n 1, 1) := by decide +kernel
theorem dX9_sucks_2 : decode cX9_sucks 2 = .ok (.invokevirtual 184, 3) := by decide +kernel
theorem dX9_sucks_5 : decode cX9_sucks 5 = .ok (.ifCond .eq 13, 3) := by decide +kernel
theorem dX9_sucks_8 : decode cX9_sucks 8 = .ok (.iload_n 2, 1) := by decide +kernel
theorem dX9_sucks_9 : decode cX9_sucks 9 = .ok (.iconst 0, 1) := by decide +kernel
theorem dX9_sucks_10 : decode cX9_sucks 10 = .ok (.bipush 8, 2) := by decide +kernel
theorem dX9_sucks_12 : decode cX9_sucks 12 = .ok (.invokestatic 15, 3) := by decide +kernel
theorem dX9_sucks_15 : decode cX9_sucks 15 = .ok (.ifCond .ne 8, 3) := by decide +kernel
theorem dX9_sucks_18 : decode cX9_sucks 18 = .ok (.aload_n 0, 1) := by decide +kernel
theorem dX9_sucks_19 : decode cX9_sucks 19 = .ok (.invokevirtual 110, 3) := by decide +kernel
theorem dX9_sucks_22 : decode cX9_sucks 22 = .ok (.ireturn, 1) := by decide +kernel
theorem dX9_sucks_23 : decode cX9_sucks 23 = .ok (.iconst 1, 1) := by decide +kernel
theorem dX9_sucks_24 : decode cX9_sucks 24 = .ok (.istore_n 3, 1) := by decide +kernel
theorem dX9_sucks_25 : decode cX9_sucks 25 = .ok (.iload_n 3, 1) := by decide +kernel
theorem dX9_sucks_26 : decode cX9_sucks 26 = .ok (.bipush 9, 2) := by decide +kernel
theorem dX9_sucks_28 : decode cX9_sucks 28 = .ok (.if_icmp .gt 42, 3) := by decide +kernel
theorem dX9_sucks_31 : decode cX9_sucks 31 = .ok (.aload_n 0, 1) := by decide +kernel
theorem dX9_sucks_32 : decode cX9_sucks 32 = .ok (.getfield 38, 3) := by decide +kernel
theorem dX9_sucks_35 : decode cX9_sucks 35 = .ok (.iload_n 1, 1) := by decide +kernel
theorem dX9_sucks_36 : decode cX9_sucks 36 = .ok (.iaload, 1) := by decide +kernel
theorem dX9_sucks_37 : decode cX9_sucks 37 = .ok (.aload_n 0, 1) := by decide +kernel
theorem dX9_sucks_38 : decode cX9_sucks 38 = .ok (.getfield 41, 3) := by decide +kernel
theorem dX9_sucks_41 : decode cX9_sucks 41 = .ok (.iload_n 1, 1) := by decide +kernel
theorem dX9_sucks_42 : decode cX9_sucks 42 = .ok (.iaload, 1) := by decide +kernel
theorem dX9_sucks_43 : decode cX9_sucks 43 = .ok (.iload_n 2, 1) := by decide +kernel
theorem dX9_sucks_44 : decode cX9_sucks 44 = .ok (.aload_n 0, 1) := by decide +kernel
theorem dX9_sucks_45 : decode cX9_sucks 45 = .ok (.getfield 47, 3) := by decide +kernel
theorem dX9_sucks_48 : decode cX9_sucks 48 = .ok (.iload_n 1, 1) := by decide +kernel
theorem dX9_sucks_49 : decode cX9_sucks 49 = .ok (.iaload, 1) := by decide +kernel
theorem dX9_sucks_50 : decode cX9_sucks 50 = .ok (.iload_n 3, 1) := by decide +kernel
theorem dX9_sucks_51 : decode cX9_sucks 51 = .ok (.iadd, 1) := by decide +kernel
theorem dX9_sucks_52 : decode cX9_sucks 52 = .ok (.invokestatic 177, 3) := by decide +kernel
theorem dX9_sucks_55 : decode cX9_sucks 55 = .ok (.aload_n 0, 1) := by decide +kernel
theorem dX9_sucks_56 : decode cX9_sucks 56 = .ok (.iload_n 1, 1) := by decide +kernel
theorem dX9_sucks_57 : decode cX9_sucks 57 = .ok (.iload_n 2, 1) := by decide +kernel
theorem dX9_sucks_58 : decode cX9_sucks 58 = .ok (.invokevirtual 193, 3) := by decide +kernel
theorem dX9_sucks_61 : decode cX9_sucks 61 = .ok (.if_icmp .ne 9, 3) := by decide +kernel
theorem dX9_sucks_64 : decode cX9_sucks 64 = .ok (.iinc 3 1, 3) := by decide +kernel
theorem dX9_sucks_67 : decode cX9_sucks 67 = .ok (.goto (-42), 3) := by decide +kernel
theorem dX9_sucks_70 : decode cX9_sucks 70 = .ok (.iload_n 3, 1) := by decide +kernel
theorem dX9_sucks_71 : decode cX9_sucks 71 = .ok (.bipush 9, 2) := by decide +kernel
theorem dX9_sucks_73 : decode cX9_sucks 73 = .ok (.if_icmp .gt 7, 3) := by decide +kernel
theorem dX9_sucks_76 : decode cX9_sucks 76 = .ok (.iload_n 3, 1) := by decide +kernel
theorem dX9_sucks_77 : decode cX9_sucks 77 = .ok (.goto 4, 3) := by decide +kernel
theorem dX9_sucks_80 : decode cX9_sucks 80 = .ok (.iconst (-1), 1) := by decide +kernel
theorem dX9_sucks_81 : decode cX9_sucks 81 = .ok (.ireturn, 1) := by decide +kernel
theorem dX9_bits_0 : decode cX9_bits 0 = .ok (.iconst 0, 1) := by decide +kernel
theorem dX9_bits_1 : decode cX9_bits 1 = .ok (.istore_n 1, 1) := by decide +kernel
theorem dX9_bits_2 : decode cX9_bits 2 = .ok (.iconst 0, 1) := by decide +kernel
theorem dX9_bits_3 : decode cX9_bits 3 = .ok (.istore_n 2, 1) := by decide +kernel
theorem dX9_bits_4 : decode cX9_bits 4 = .ok (.iload_n 2, 1) := by decide +kernel
theorem dX9_bits_5 : decode cX9_bits 5 = .ok (.bipush 9, 2) := by decide +kernel
theorem dX9_bits_7 : decode cX9_bits 7 = .ok (.if_icmp .ge 17, 3) := by decide +kernel
theorem dX9_bits_10 : decode cX9_bits 10 = .ok (.iload_n 1, 1) := by decide +kernel
theorem dX9_bits_11 : decode cX9_bits 11 = .ok (.iload_n 0, 1) := by decide +kernel
theorem dX9_bits_12 : decode cX9_bits 12 = .ok (.iload_n 2, 1) := by decide +kernel
theorem dX9_bits_13 : decode cX9_bits 13 = .ok (.ishr, 1) := by decide +kernel
theorem dX9_bits_14 : decode cX9_bits 14 = .ok (.iconst 1, 1) := by decide +kernel
theorem dX9_bits_15 : decode cX9_bits 15 = .ok (.iand, 1) := by decide +kernel
theorem dX9_bits_16 : decode cX9_bits 16 = .ok (.iadd, 1) := by decide +kernel
theorem dX9_bits_17 : decode cX9_bits 17 = .ok (.istore_n 1, 1) := by decide +kernel
theorem dX9_bits_18 : decode cX9_bits 18 = .ok (.iinc 2 1, 3) := by decide +kernel
theorem dX9_bits_21 : decode cX9_bits 21 = .ok (.goto (-17), 3) := by decide +kernel
theorem dX9_bits_24 : decode cX9_bits 24 = .ok (.iload_n 1, 1) := by decide +kernel
theorem dX9_bits_25 : decode cX9_bits 25 = .ok (.ireturn, 1) := by decide +kernel
theorem dX9_otherAs_0 : decode cX9_otherAs 0 = .ok (.iconst 0, 1) := by decide +kernel
theorem dX9_otherAs_1 : decode cX9_otherAs 1 = .ok (.istore_n 3, 1) := by decide +kernel
theorem dX9_otherAs_2 : decode cX9_otherAs 2 = .ok (.iconst 0, 1) := by decide +kernel
theorem dX9_otherAs_3 : decode cX9_otherAs 3 = .ok (.istore 4, 2) := by decide +kernel
theorem dX9_otherAs_5 : decode cX9_otherAs 5 = .ok (.iload 4, 2) := by decide +kernel
theorem dX9_otherAs_7 : decode cX9_otherAs 7 = .ok (.aload_n 0, 1) := by decide +kernel
theorem dX9_otherAs_8 : decode cX9_otherAs 8 = .ok (.getfield 44, 3) := by decide +kernel
theorem dX9_otherAs_11 : decode cX9_otherAs 11 = .ok (.iload_n 1, 1) := by decide +kernel
theorem dX9_otherAs_12 : decode cX9_otherAs 12 = .ok (.iaload, 1) := by decide +kernel
theorem dX9_otherAs_13 : decode cX9_otherAs 13 = .ok (.if_icmp .ge 48, 3) := by decide +kernel
theorem dX9_otherAs_16 : decode cX9_otherAs 16 = .ok (.iload_n 3, 1) := by decide +kernel
theorem dX9_otherAs_17 : decode cX9_otherAs 17 = .ok (.iload_n 2, 1) := by decide +kernel
theorem dX9_otherAs_18 : decode cX9_otherAs 18 = .ok (.aload_n 0, 1) := by decide +kernel
theorem dX9_otherAs_19 : decode cX9_otherAs 19 = .ok (.getfield 41, 3) := by decide +kernel
theorem dX9_otherAs_22 : decode cX9_otherAs 22 = .ok (.iload_n 1, 1) := by decide +kernel
theorem dX9_otherAs_23 : decode cX9_otherAs 23 = .ok (.iaload, 1) := by decide +kernel
theorem dX9_otherAs_24 : decode cX9_otherAs 24 = .ok (.iload 4, 2) := by decide +kernel
theorem dX9_otherAs_26 : decode cX9_otherAs 26 = .ok (.aload_n 0, 1) := by decide +kernel
theorem dX9_otherAs_27 : decode cX9_otherAs 27 = .ok (.getfield 47, 3) := by decide +kernel
theorem dX9_otherAs_30 : decode cX9_otherAs 30 = .ok (.iload_n 1, 1) := by decide +kernel
theorem dX9_otherAs_31 : decode cX9_otherAs 31 = .ok (.iaload, 1) := by decide +kernel
theorem dX9_otherAs_32 : decode cX9_otherAs 32 = .ok (.invokestatic 177, 3) := by decide +kernel
theorem dX9_otherAs_35 : decode cX9_otherAs 35 = .ok (.aload_n 0, 1) := by decide +kernel
theorem dX9_otherAs_36 : decode cX9_otherAs 36 = .ok (.iload_n 1, 1) := by decide +kernel
theorem dX9_otherAs_37 : decode cX9_otherAs 37 = .ok (.iload 4, 2) := by decide +kernel
theorem dX9_otherAs_39 : decode cX9_otherAs 39 = .ok (.invokevirtual 193, 3) := by decide +kernel
theorem dX9_otherAs_42 : decode cX9_otherAs 42 = .ok (.if_icmp .eq 10, 3) := by decide +kernel
theorem dX9_otherAs_45 : decode cX9_otherAs 45 = .ok (.iconst 1, 1) := by decide +kernel
theorem dX9_otherAs_46 : decode cX9_otherAs 46 = .ok (.iload 4, 2) := by decide +kernel
theorem dX9_otherAs_48 : decode cX9_otherAs 48 = .ok (.ishl, 1) := by decide +kernel
theorem dX9_otherAs_49 : decode cX9_otherAs 49 = .ok (.goto 4, 3) := by decide +kernel
theorem dX9_otherAs_52 : decode cX9_otherAs 52 = .ok (.iconst 0, 1) := by decide +kernel
theorem dX9_otherAs_53 : decode cX9_otherAs 53 = .ok (.ior, 1) := by decide +kernel
theorem dX9_otherAs_54 : decode cX9_otherAs 54 = .ok (.istore_n 3, 1) := by decide +kernel
theorem dX9_otherAs_55 : decode cX9_otherAs 55 = .ok (.iinc 4 1, 3) := by decide +kernel
theorem dX9_otherAs_58 : decode cX9_otherAs 58 = .ok (.goto (-53), 3) := by decide +kernel
theorem dX9_otherAs_61 : decode cX9_otherAs 61 = .ok (.iload_n 3, 1) := by decide +kernel
theorem dX9_otherAs_62 : decode cX9_otherAs 62 = .ok (.ireturn, 1) := by decide +kernel
theorem dX9_isTold_0 : decode cX9_isTold 0 = .ok (.iconst 1, 1) := by decide +kernel
theorem dX9_isTold_1 : decode cX9_isTold 1 = .ok (.istore_n 3, 1) := by decide +kernel
theorem dX9_isTold_2 : decode cX9_isTold 2 = .ok (.iconst 0, 1) := by decide +kernel
theorem dX9_isTold_3 : decode cX9_isTold 3 = .ok (.istore 4, 2) := by decide +kernel
theorem dX9_isTold_5 : decode cX9_isTold 5 = .ok (.iload 4, 2) := by decide +kernel
theorem dX9_isTold_7 : decode cX9_isTold 7 = .ok (.iconst 5, 1) := by decide +kernel
theorem dX9_isTold_8 : decode cX9_isTold 8 = .ok (.if_icmp .gt 42, 3) := by decide +kernel
theorem dX9_isTold_11 : decode cX9_isTold 11 = .ok (.iload_n 3, 1) := by decide +kernel
theorem dX9_isTold_12 : decode cX9_isTold 12 = .ok (.ifCond .eq 30, 3) := by decide +kernel
theorem dX9_isTold_15 : decode cX9_isTold 15 = .ok (.iload 4, 2) := by decide +kernel
theorem dX9_isTold_17 : decode cX9_isTold 17 = .ok (.aload_n 0, 1) := by decide +kernel
theorem dX9_isTold_18 : decode cX9_isTold 18 = .ok (.getfield 38, 3) := by decide +kernel
theorem dX9_isTold_21 : decode cX9_isTold 21 = .ok (.iload_n 1, 1) := by decide +kernel
theorem dX9_isTold_22 : decode cX9_isTold 22 = .ok (.iaload, 1) := by decide +kernel
theorem dX9_isTold_23 : decode cX9_isTold 23 = .ok (.if_icmp .eq 15, 3) := by decide +kernel
theorem dX9_isTold_26 : decode cX9_isTold 26 = .ok (.aload_n 0, 1) := by decide +kernel
theorem dX9_isTold_27 : decode cX9_isTold 27 = .ok (.iload_n 1, 1) := by decide +kernel
theorem dX9_isTold_28 : decode cX9_isTold 28 = .ok (.iload 4, 2) := by decide +kernel
theorem dX9_isTold_30 : decode cX9_isTold 30 = .ok (.invokevirtual 211, 3) := by decide +kernel
theorem dX9_isTold_33 : decode cX9_isTold 33 = .ok (.iload_n 2, 1) := by decide +kernel
theorem dX9_isTold_34 : decode cX9_isTold 34 = .ok (.iand, 1) := by decide +kernel
theorem dX9_isTold_35 : decode cX9_isTold 35 = .ok (.ifCond .eq 7, 3) := by decide +kernel
theorem dX9_isTold_38 : decode cX9_isTold 38 = .ok (.iconst 1, 1) := by decide +kernel
theorem dX9_isTold_39 : decode cX9_isTold 39 = .ok (.goto 4, 3) := by decide +kernel
theorem dX9_isTold_42 : decode cX9_isTold 42 = .ok (.iconst 0, 1) := by decide +kernel
theorem dX9_isTold_43 : decode cX9_isTold 43 = .ok (.istore_n 3, 1) := by decide +kernel
theorem dX9_isTold_44 : decode cX9_isTold 44 = .ok (.iinc 4 1, 3) := by decide +kernel
theorem dX9_isTold_47 : decode cX9_isTold 47 = .ok (.goto (-42), 3) := by decide +kernel
theorem dX9_isTold_50 : decode cX9_isTold 50 = .ok (.iload_n 3, 1) := by decide +kernel
theorem dX9_isTold_51 : decode cX9_isTold 51 = .ok (.ireturn, 1) := by decide +kernel
theorem dX9_breaks_0 : decode cX9_breaks 0 = .ok (.aload_n 0, 1) := by decide +kernel
theorem dX9_breaks_1 : decode cX9_breaks 1 = .ok (.iload_n 1, 1) := by decide +kernel
theorem dX9_breaks_2 : decode cX9_breaks 2 = .ok (.invokevirtual 184, 3) := by decide +kernel
theorem dX9_breaks_5 : decode cX9_breaks 5 = .ok (.ifCond .eq 12, 3) := by decide +kernel
theorem dX9_breaks_8 : decode cX9_breaks 8 = .ok (.iload_n 2, 1) := by decide +kernel
theorem dX9_breaks_9 : decode cX9_breaks 9 = .ok (.iconst 0, 1) := by decide +kernel
theorem dX9_breaks_10 : decode cX9_breaks 10 = .ok (.iconst 1, 1) := by decide +kernel
theorem dX9_breaks_11 : decode cX9_breaks 11 = .ok (.invokestatic 15, 3) := by decide +kernel
theorem dX9_breaks_14 : decode cX9_breaks 14 = .ok (.ifCond .ne 8, 3) := by decide +kernel
theorem dX9_breaks_17 : decode cX9_breaks 17 = .ok (.aload_n 0, 1) := by decide +kernel
theorem dX9_breaks_18 : decode cX9_breaks 18 = .ok (.invokevirtual 110, 3) := by decide +kernel
theorem dX9_breaks_21 : decode cX9_breaks 21 = .ok (.ireturn, 1) := by decide +kernel
theorem dX9_breaks_22 : decode cX9_breaks 22 = .ok (.iconst (-1), 1) := by decide +kernel
theorem dX9_breaks_23 : decode cX9_breaks 23 = .ok (.istore_n 3, 1) := by decide +kernel
theorem dX9_breaks_24 : decode cX9_breaks 24 = .ok (.iconst 0, 1) := by decide +kernel
theorem dX9_breaks_25 : decode cX9_breaks 25 = .ok (.istore 4, 2) := by decide +kernel
theorem dX9_breaks_27 : decode cX9_breaks 27 = .ok (.iload 4, 2) := by decide +kernel
theorem dX9_breaks_29 : decode cX9_breaks 29 = .ok (.iconst 1, 1) := by decide +kernel
theorem dX9_breaks_30 : decode cX9_breaks 30 = .ok (.aload_n 0, 1) := by decide +kernel
theorem dX9_breaks_31 : decode cX9_breaks 31 = .ok (.getfield 44, 3) := by decide +kernel
theorem dX9_breaks_34 : decode cX9_breaks 34 = .ok (.iload_n 1, 1) := by decide +kernel
theorem dX9_breaks_35 : decode cX9_breaks 35 = .ok (.iaload, 1) := by decide +kernel
theorem dX9_breaks_36 : decode cX9_breaks 36 = .ok (.ishl, 1) := by decide +kernel
theorem dX9_breaks_37 : decode cX9_breaks 37 = .ok (.if_icmp .ge 43, 3) := by decide +kernel
theorem dX9_breaks_40 : decode cX9_breaks 40 = .ok (.iload_n 3, 1) := by decide +kernel
theorem dX9_breaks_41 : decode cX9_breaks 41 = .ok (.iconst (-1), 1) := by decide +kernel
theorem dX9_breaks_42 : decode cX9_breaks 42 = .ok (.if_icmp .eq 15, 3) := by decide +kernel
theorem dX9_breaks_45 : decode cX9_breaks 45 = .ok (.iload 4, 2) := by decide +kernel
theorem dX9_breaks_47 : decode cX9_breaks 47 = .ok (.invokestatic 214, 3) := by decide +kernel
theorem dX9_breaks_50 : decode cX9_breaks 50 = .ok (.iload_n 3, 1) := by decide +kernel
theorem dX9_breaks_51 : decode cX9_breaks 51 = .ok (.invokestatic 214, 3) := by decide +kernel
theorem dX9_breaks_54 : decode cX9_breaks 54 = .ok (.if_icmp .ge 20, 3) := by decide +kernel
theorem dX9_breaks_57 : decode cX9_breaks 57 = .ok (.aload_n 0, 1) := by decide +kernel
theorem dX9_breaks_58 : decode cX9_breaks 58 = .ok (.iload_n 1, 1) := by decide +kernel
theorem dX9_breaks_59 : decode cX9_breaks 59 = .ok (.iload 4, 2) := by decide +kernel
theorem dX9_breaks_61 : decode cX9_breaks 61 = .ok (.invokevirtual 217, 3) := by decide +kernel
theorem dX9_breaks_64 : decode cX9_breaks 64 = .ok (.ifCond .eq 8, 3) := by decide +kernel
theorem dX9_breaks_67 : decode cX9_breaks 67 = .ok (.iload 4, 2) := by decide +kernel
theorem dX9_breaks_69 : decode cX9_breaks 69 = .ok (.goto 4, 3) := by decide +kernel
theorem dX9_breaks_72 : decode cX9_breaks 72 = .ok (.iload_n 3, 1) := by decide +kernel
theorem dX9_breaks_73 : decode cX9_breaks 73 = .ok (.istore_n 3, 1) := by decide +kernel
theorem dX9_breaks_74 : decode cX9_breaks 74 = .ok (.iinc 4 1, 3) := by decide +kernel
theorem dX9_breaks_77 : decode cX9_breaks 77 = .ok (.goto (-50), 3) := by decide +kernel
theorem dX9_breaks_80 : decode cX9_breaks 80 = .ok (.iload_n 3, 1) := by decide +kernel
theorem dX9_breaks_81 : decode cX9_breaks 81 = .ok (.iconst (-1), 1) := by decide +kernel
theorem dX9_breaks_82 : decode cX9_breaks 82 = .ok (.if_icmp .eq 8, 3) := by decide +kernel
theorem dX9_breaks_85 : decode cX9_breaks 85 = .ok (.iload_n 2, 1) := by decide +kernel
theorem dX9_breaks_86 : decode cX9_breaks 86 = .ok (.iconst 1, 1) := by decide +kernel
theorem dX9_breaks_87 : decode cX9_breaks 87 = .ok (.if_icmp .ne 7, 3) := by decide +kernel
theorem dX9_breaks_90 : decode cX9_breaks 90 = .ok (.iload_n 3, 1) := by decide +kernel
theorem dX9_breaks_91 : decode cX9_breaks 91 = .ok (.goto 7, 3) := by decide +kernel
theorem dX9_breaks_94 : decode cX9_breaks 94 = .ok (.iload_n 3, 1) := by decide +kernel
theorem dX9_breaks_95 : decode cX9_breaks 95 = .ok (.invokestatic 214, 3) := by decide +kernel
theorem dX9_breaks_98 : decode cX9_breaks 98 = .ok (.ireturn, 1) := by decide +kernel
theorem dX9_letters_0 : decode cX9_letters 0 = .ok (.aload_n 0, 1) := by decide +kernel
theorem dX9_letters_1 : decode cX9_letters 1 = .ok (.iload_n 1, 1) := by decide +kernel
theorem dX9_letters_2 : decode cX9_letters 2 = .ok (.invokevirtual 184, 3) := by decide +kernel
theorem dX9_letters_5 : decode cX9_letters 5 = .ok (.ifCond .ne 8, 3) := by decide +kernel
theorem dX9_letters_8 : decode cX9_letters 8 = .ok (.aload_n 0, 1) := by decide +kernel
theorem dX9_letters_9 : decode cX9_letters 9 = .ok (.invokevirtual 110, 3) := by decide +kernel
theorem dX9_letters_12 : decode cX9_letters 12 = .ok (.ireturn, 1) := by decide +kernel
theorem dX9_letters_13 : decode cX9_letters 13 = .ok (.iconst 0, 1) := by decide +kernel
theorem dX9_letters_14 : decode cX9_letters 14 = .ok (.istore_n 2, 1) := by decide +kernel
theorem dX9_letters_15 : decode cX9_letters 15 = .ok (.iconst 0, 1) := by decide +kernel
theorem dX9_letters_16 : decode cX9_letters 16 = .ok (.istore_n 3, 1) := by decide +kernel
theorem dX9_letters_17 : decode cX9_letters 17 = .ok (.iload_n 3, 1) := by decide +kernel
theorem dX9_letters_18 : decode cX9_letters 18 = .ok (.aload_n 0, 1) := by decide +kernel
theorem dX9_letters_19 : decode cX9_letters 19 = .ok (.getfield 44, 3) := by decide +kernel
theorem dX9_letters_22 : decode cX9_letters 22 = .ok (.iload_n 1, 1) := by decide +kernel
theorem dX9_letters_23 : decode cX9_letters 23 = .ok (.iaload, 1) := by decide +kernel
theorem dX9_letters_24 : decode cX9_letters 24 = .ok (.if_icmp .ge 21, 3) := by decide +kernel
theorem dX9_letters_27 : decode cX9_letters 27 = .ok (.iload_n 2, 1) := by decide +kernel
theorem dX9_letters_28 : decode cX9_letters 28 = .ok (.aload_n 0, 1) := by decide +kernel
theorem dX9_letters_29 : decode cX9_letters 29 = .ok (.iload_n 1, 1) := by decide +kernel
theorem dX9_letters_30 : decode cX9_letters 30 = .ok (.iload_n 3, 1) := by decide +kernel
theorem dX9_letters_31 : decode cX9_letters 31 = .ok (.invokevirtual 193, 3) := by decide +kernel
theorem dX9_letters_34 : decode cX9_letters 34 = .ok (.invokestatic 7, 3) := by decide +kernel
theorem dX9_letters_37 : decode cX9_letters 37 = .ok (.iadd, 1) := by decide +kernel
theorem dX9_letters_38 : decode cX9_letters 38 = .ok (.istore_n 2, 1) := by decide +kernel
theorem dX9_letters_39 : decode cX9_letters 39 = .ok (.iinc 3 1, 3) := by decide +kernel
theorem dX9_letters_42 : decode cX9_letters 42 = .ok (.goto (-25), 3) := by decide +kernel
theorem dX9_letters_45 : decode cX9_letters 45 = .ok (.iload_n 2, 1) := by decide +kernel
theorem dX9_letters_46 : decode cX9_letters 46 = .ok (.ireturn, 1) := by decide +kernel
theorem dX9_unlike_0 : decode cX9_unlike 0 = .ok (.aload_n 0, 1) := by decide +kernel
theorem dX9_unlike_1 : decode cX9_unlike 1 = .ok (.iload_n 1, 1) := by decide +kernel
theorem dX9_unlike_2 : decode cX9_unlike 2 = .ok (.iconst 0, 1) := by decide +kernel
theorem dX9_unlike_3 : decode cX9_unlike 3 = .ok (.invokevirtual 193, 3) := by decide +kernel
theorem dX9_unlike_6 : decode cX9_unlike 6 = .ok (.istore_n 3, 1) := by decide +kernel
theorem dX9_unlike_7 : decode cX9_unlike 7 = .ok (.aload_n 0, 1) := by decide +kernel
theorem dX9_unlike_8 : decode cX9_unlike 8 = .ok (.iload_n 2, 1) := by decide +kernel
theorem dX9_unlike_9 : decode cX9_unlike 9 = .ok (.iconst 0, 1) := by decide +kernel
theorem dX9_unlike_10 : decode cX9_unlike 10 = .ok (.invokevirtual 193, 3) := by decide +kernel
theorem dX9_unlike_13 : decode cX9_unlike 13 = .ok (.istore 4, 2) := by decide +kernel
theorem dX9_unlike_15 : decode cX9_unlike 15 = .ok (.iconst 0, 1) := by decide +kernel
theorem dX9_unlike_16 : decode cX9_unlike 16 = .ok (.istore 5, 2) := by decide +kernel
theorem dX9_unlike_18 : decode cX9_unlike 18 = .ok (.iconst 0, 1) := by decide +kernel
theorem dX9_unlike_19 : decode cX9_unlike 19 = .ok (.istore 6, 2) := by decide +kernel
theorem dX9_unlike_21 : decode cX9_unlike 21 = .ok (.iload 6, 2) := by decide +kernel
theorem dX9_unlike_23 : decode cX9_unlike 23 = .ok (.iconst 5, 1) := by decide +kernel
theorem dX9_unlike_24 : decode cX9_unlike 24 = .ok (.if_icmp .ge 35, 3) := by decide +kernel
theorem dX9_unlike_27 : decode cX9_unlike 27 = .ok (.iload 5, 2) := by decide +kernel
theorem dX9_unlike_29 : decode cX9_unlike 29 = .ok (.iload_n 3, 1) := by decide +kernel
theorem dX9_unlike_30 : decode cX9_unlike 30 = .ok (.iload 6, 2) := by decide +kernel
theorem dX9_unlike_32 : decode cX9_unlike 32 = .ok (.invokestatic 11, 3) := by decide +kernel
theorem dX9_unlike_35 : decode cX9_unlike 35 = .ok (.iload 4, 2) := by decide +kernel
theorem dX9_unlike_37 : decode cX9_unlike 37 = .ok (.iload 6, 2) := by decide +kernel
theorem dX9_unlike_39 : decode cX9_unlike 39 = .ok (.invokestatic 11, 3) := by decide +kernel
theorem dX9_unlike_42 : decode cX9_unlike 42 = .ok (.if_icmp .ne 7, 3) := by decide +kernel
theorem dX9_unlike_45 : decode cX9_unlike 45 = .ok (.iconst 0, 1) := by decide +kernel
theorem dX9_unlike_46 : decode cX9_unlike 46 = .ok (.goto 4, 3) := by decide +kernel
theorem dX9_unlike_49 : decode cX9_unlike 49 = .ok (.iconst 1, 1) := by decide +kernel
theorem dX9_unlike_50 : decode cX9_unlike 50 = .ok (.iadd, 1) := by decide +kernel
theorem dX9_unlike_51 : decode cX9_unlike 51 = .ok (.istore 5, 2) := by decide +kernel
theorem dX9_unlike_53 : decode cX9_unlike 53 = .ok (.iinc 6 1, 3) := by decide +kernel
theorem dX9_unlike_56 : decode cX9_unlike 56 = .ok (.goto (-35), 3) := by decide +kernel
theorem dX9_unlike_59 : decode cX9_unlike 59 = .ok (.iload 5, 2) := by decide +kernel
theorem dX9_unlike_61 : decode cX9_unlike 61 = .ok (.ireturn, 1) := by decide +kernel
theorem dX9_nextLine_0 : decode cX9_nextLine 0 = .ok (.aload_n 0, 1) := by decide +kernel
theorem dX9_nextLine_1 : decode cX9_nextLine 1 = .ok (.getfield 96, 3) := by decide +kernel
theorem dX9_nextLine_4 : decode cX9_nextLine 4 = .ok (.iconst 2, 1) := by decide +kernel
theorem dX9_nextLine_5 : decode cX9_nextLine 5 = .ok (.isub, 1) := by decide +kernel
theorem dX9_nextLine_6 : decode cX9_nextLine 6 = .ok (.istore_n 1, 1) := by decide +kernel
theorem dX9_nextLine_7 : decode cX9_nextLine 7 = .ok (.iload_n 1, 1) := by decide +kernel
theorem dX9_nextLine_8 : decode cX9_nextLine 8 = .ok (.ifCond .lt 26, 3) := by decide +kernel
theorem dX9_nextLine_11 : decode cX9_nextLine 11 = .ok (.aload_n 0, 1) := by decide +kernel
theorem dX9_nextLine_12 : decode cX9_nextLine 12 = .ok (.getfield 71, 3) := by decide +kernel
theorem dX9_nextLine_15 : decode cX9_nextLine 15 = .ok (.iload_n 1, 1) := by decide +kernel
theorem dX9_nextLine_16 : decode cX9_nextLine 16 = .ok (.iaload, 1) := by decide +kernel
theorem dX9_nextLine_17 : decode cX9_nextLine 17 = .ok (.aload_n 0, 1) := by decide +kernel
theorem dX9_nextLine_18 : decode cX9_nextLine 18 = .ok (.getfield 71, 3) := by decide +kernel
theorem dX9_nextLine_21 : decode cX9_nextLine 21 = .ok (.iload_n 1, 1) := by decide +kernel
theorem dX9_nextLine_22 : decode cX9_nextLine 22 = .ok (.iconst 1, 1) := by decide +kernel
theorem dX9_nextLine_23 : decode cX9_nextLine 23 = .ok (.iadd, 1) := by decide +kernel
theorem dX9_nextLine_24 : decode cX9_nextLine 24 = .ok (.iaload, 1) := by decide +kernel
theorem dX9_nextLine_25 : decode cX9_nextLine 25 = .ok (.if_icmp .le 9, 3) := by decide +kernel
theorem dX9_nextLine_28 : decode cX9_nextLine 28 = .ok (.iinc 1 (-1), 3) := by decide +kernel
theorem dX9_nextLine_31 : decode cX9_nextLine 31 = .ok (.goto (-24), 3) := by decide +kernel
theorem dX9_nextLine_34 : decode cX9_nextLine 34 = .ok (.iload_n 1, 1) := by decide +kernel
theorem dX9_nextLine_35 : decode cX9_nextLine 35 = .ok (.ifCond .ge 5, 3) := by decide +kernel
theorem dX9_nextLine_38 : decode cX9_nextLine 38 = .ok (.iconst 0, 1) := by decide +kernel
theorem dX9_nextLine_39 : decode cX9_nextLine 39 = .ok (.ireturn, 1) := by decide +kernel
theorem dX9_nextLine_40 : decode cX9_nextLine 40 = .ok (.aload_n 0, 1) := by decide +kernel
theorem dX9_nextLine_41 : decode cX9_nextLine 41 = .ok (.getfield 96, 3) := by decide +kernel
theorem dX9_nextLine_44 : decode cX9_nextLine 44 = .ok (.iconst 1, 1) := by decide +kernel
theorem dX9_nextLine_45 : decode cX9_nextLine 45 = .ok (.isub, 1) := by decide +kernel
theorem dX9_nextLine_46 : decode cX9_nextLine 46 = .ok (.istore_n 2, 1) := by decide +kernel
theorem dX9_nextLine_47 : decode cX9_nextLine 47 = .ok (.aload_n 0, 1) := by decide +kernel
theorem dX9_nextLine_48 : decode cX9_nextLine 48 = .ok (.getfield 71, 3) := by decide +kernel
theorem dX9_nextLine_51 : decode cX9_nextLine 51 = .ok (.iload_n 2, 1) := by decide +kernel
theorem dX9_nextLine_52 : decode cX9_nextLine 52 = .ok (.iaload, 1) := by decide +kernel
theorem dX9_nextLine_53 : decode cX9_nextLine 53 = .ok (.aload_n 0, 1) := by decide +kernel
theorem dX9_nextLine_54 : decode cX9_nextLine 54 = .ok (.getfield 71, 3) := by decide +kernel
theorem dX9_nextLine_57 : decode cX9_nextLine 57 = .ok (.iload_n 1, 1) := by decide +kernel
theorem dX9_nextLine_58 : decode cX9_nextLine 58 = .ok (.iaload, 1) := by decide +kernel
theorem dX9_nextLine_59 : decode cX9_nextLine 59 = .ok (.if_icmp .ge 9, 3) := by decide +kernel
theorem dX9_nextLine_62 : decode cX9_nextLine 62 = .ok (.iinc 2 (-1), 3) := by decide +kernel
theorem dX9_nextLine_65 : decode cX9_nextLine 65 = .ok (.goto (-18), 3) := by decide +kernel
theorem dX9_nextLine_68 : decode cX9_nextLine 68 = .ok (.aload_n 0, 1) := by decide +kernel
theorem dX9_nextLine_69 : decode cX9_nextLine 69 = .ok (.getfield 71, 3) := by decide +kernel
theorem dX9_nextLine_72 : decode cX9_nextLine 72 = .ok (.iload_n 1, 1) := by decide +kernel
theorem dX9_nextLine_73 : decode cX9_nextLine 73 = .ok (.iaload, 1) := by decide +kernel
theorem dX9_nextLine_74 : decode cX9_nextLine 74 = .ok (.istore_n 3, 1) := by decide +kernel
theorem dX9_nextLine_75 : decode cX9_nextLine 75 = .ok (.aload_n 0, 1) := by decide +kernel
theorem dX9_nextLine_76 : decode cX9_nextLine 76 = .ok (.getfield 71, 3) := by decide +kernel
theorem dX9_nextLine_79 : decode cX9_nextLine 79 = .ok (.iload_n 1, 1) := by decide +kernel
theorem dX9_nextLine_80 : decode cX9_nextLine 80 = .ok (.aload_n 0, 1) := by decide +kernel
theorem dX9_nextLine_81 : decode cX9_nextLine 81 = .ok (.getfield 71, 3) := by decide +kernel
theorem dX9_nextLine_84 : decode cX9_nextLine 84 = .ok (.iload_n 2, 1) := by decide +kernel
theorem dX9_nextLine_85 : decode cX9_nextLine 85 = .ok (.iaload, 1) := by decide +kernel
theorem dX9_nextLine_86 : decode cX9_nextLine 86 = .ok (.iastore, 1) := by decide +kernel
theorem dX9_nextLine_87 : decode cX9_nextLine 87 = .ok (.aload_n 0, 1) := by decide +kernel
theorem dX9_nextLine_88 : decode cX9_nextLine 88 = .ok (.getfield 71, 3) := by decide +kernel
theorem dX9_nextLine_91 : decode cX9_nextLine 91 = .ok (.iload_n 2, 1) := by decide +kernel
theorem dX9_nextLine_92 : decode cX9_nextLine 92 = .ok (.iload_n 3, 1) := by decide +kernel
theorem dX9_nextLine_93 : decode cX9_nextLine 93 = .ok (.iastore, 1) := by decide +kernel
theorem dX9_nextLine_94 : decode cX9_nextLine 94 = .ok (.iload_n 1, 1) := by decide +kernel
theorem dX9_nextLine_95 : decode cX9_nextLine 95 = .ok (.iconst 1, 1) := by decide +kernel
theorem dX9_nextLine_96 : decode cX9_nextLine 96 = .ok (.iadd, 1) := by decide +kernel
theorem dX9_nextLine_97 : decode cX9_nextLine 97 = .ok (.istore 4, 2) := by decide +kernel
theorem dX9_nextLine_99 : decode cX9_nextLine 99 = .ok (.aload_n 0, 1) := by decide +kernel
theorem dX9_nextLine_100 : decode cX9_nextLine 100 = .ok (.getfield 96, 3) := by decide +kernel
theorem dX9_nextLine_103 : decode cX9_nextLine 103 = .ok (.iconst 1, 1) := by decide +kernel
theorem dX9_nextLine_104 : decode cX9_nextLine 104 = .ok (.isub, 1) := by decide +kernel
theorem dX9_nextLine_105 : decode cX9_nextLine 105 = .ok (.istore 5, 2) := by decide +kernel
theorem dX9_nextLine_107 : decode cX9_nextLine 107 = .ok (.iload 4, 2) := by decide +kernel
theorem dX9_nextLine_109 : decode cX9_nextLine 109 = .ok (.iload 5, 2) := by decide +kernel
theorem dX9_nextLine_111 : decode cX9_nextLine 111 = .ok (.if_icmp .ge 42, 3) := by decide +kernel
theorem dX9_nextLine_114 : decode cX9_nextLine 114 = .ok (.aload_n 0, 1) := by decide +kernel
theorem dX9_nextLine_115 : decode cX9_nextLine 115 = .ok (.getfield 71, 3) := by decide +kernel
theorem dX9_nextLine_118 : decode cX9_nextLine 118 = .ok (.iload 4, 2) := by decide +kernel
theorem dX9_nextLine_120 : decode cX9_nextLine 120 = .ok (.iaload, 1) := by decide +kernel
theorem dX9_nextLine_121 : decode cX9_nextLine 121 = .ok (.istore_n 3, 1) := by decide +kernel
theorem dX9_nextLine_122 : decode cX9_nextLine 122 = .ok (.aload_n 0, 1) := by decide +kernel
theorem dX9_nextLine_123 : decode cX9_nextLine 123 = .ok (.getfield 71, 3) := by decide +kernel
theorem dX9_nextLine_126 : decode cX9_nextLine 126 = .ok (.iload 4, 2) := by decide +kernel
theorem dX9_nextLine_128 : decode cX9_nextLine 128 = .ok (.aload_n 0, 1) := by decide +kernel
theorem dX9_nextLine_129 : decode cX9_nextLine 129 = .ok (.getfield 71, 3) := by decide +kernel
theorem dX9_nextLine_132 : decode cX9_nextLine 132 = .ok (.iload 5, 2) := by decide +kernel
theorem dX9_nextLine_134 : decode cX9_nextLine 134 = .ok (.iaload, 1) := by decide +kernel
theorem dX9_nextLine_135 : decode cX9_nextLine 135 = .ok (.iastore, 1) := by decide +kernel
theorem dX9_nextLine_136 : decode cX9_nextLine 136 = .ok (.aload_n 0, 1) := by decide +kernel
theorem dX9_nextLine_137 : decode cX9_nextLine 137 = .ok (.getfield 71, 3) := by decide +kernel
theorem dX9_nextLine_140 : decode cX9_nextLine 140 = .ok (.iload 5, 2) := by decide +kernel
theorem dX9_nextLine_142 : decode cX9_nextLine 142 = .ok (.iload_n 3, 1) := by decide +kernel
theorem dX9_nextLine_143 : decode cX9_nextLine 143 = .ok (.iastore, 1) := by decide +kernel
theorem dX9_nextLine_144 : decode cX9_nextLine 144 = .ok (.iinc 4 1, 3) := by decide +kernel
theorem dX9_nextLine_147 : decode cX9_nextLine 147 = .ok (.iinc 5 (-1), 3) := by decide +kernel
theorem dX9_nextLine_150 : decode cX9_nextLine 150 = .ok (.goto (-43), 3) := by decide +kernel
theorem dX9_nextLine_153 : decode cX9_nextLine 153 = .ok (.iconst 1, 1) := by decide +kernel
theorem dX9_nextLine_154 : decode cX9_nextLine 154 = .ok (.ireturn, 1) := by decide +kernel
theorem dX9_row_0 : decode cX9_row 0 = .ok (.iload_n 1, 1) := by decide +kernel
theorem dX9_row_1 : decode cX9_row 1 = .ok (.iconst (-1), 1) := by decide +kernel
theorem dX9_row_2 : decode cX9_row 2 = .ok (.if_icmp .ge 8, 3) := by decide +kernel
theorem dX9_row_5 : decode cX9_row 5 = .ok (.aload_n 0, 1) := by decide +kernel
theorem dX9_row_6 : decode cX9_row 6 = .ok (.invokevirtual 220, 3) := by decide +kernel
theorem dX9_row_9 : decode cX9_row 9 = .ok (.ireturn, 1) := by decide +kernel
theorem dX9_row_10 : decode cX9_row 10 = .ok (.aload_n 0, 1) := by decide +kernel
theorem dX9_row_11 : decode cX9_row 11 = .ok (.getfield 96, 3) := by decide +kernel
theorem dX9_row_14 : decode cX9_row 14 = .ok (.ifCond .ne 5, 3) := by decide +kernel
theorem dX9_row_17 : decode cX9_row 17 = .ok (.iconst (-1), 1) := by decide +kernel
theorem dX9_row_18 : decode cX9_row 18 = .ok (.ireturn, 1) := by decide +kernel
theorem dX9_row_19 : decode cX9_row 19 = .ok (.iconst 0, 1) := by decide +kernel
theorem dX9_row_20 : decode cX9_row 20 = .ok (.istore_n 2, 1) := by decide +kernel
theorem dX9_row_21 : decode cX9_row 21 = .ok (.iload_n 2, 1) := by decide +kernel
theorem dX9_row_22 : decode cX9_row 22 = .ok (.aload_n 0, 1) := by decide +kernel
theorem dX9_row_23 : decode cX9_row 23 = .ok (.getfield 96, 3) := by decide +kernel
theorem dX9_row_26 : decode cX9_row 26 = .ok (.if_icmp .ge 49, 3) := by decide +kernel
theorem dX9_row_29 : decode cX9_row 29 = .ok (.aload_n 0, 1) := by decide +kernel
theorem dX9_row_30 : decode cX9_row 30 = .ok (.getfield 71, 3) := by decide +kernel
theorem dX9_row_33 : decode cX9_row 33 = .ok (.iload_n 2, 1) := by decide +kernel
theorem dX9_row_34 : decode cX9_row 34 = .ok (.iload_n 2, 1) := by decide +kernel
theorem dX9_row_35 : decode cX9_row 35 = .ok (.iastore, 1) := by decide +kernel
theorem dX9_row_36 : decode cX9_row 36 = .ok (.iconst 0, 1) := by decide +kernel
theorem dX9_row_37 : decode cX9_row 37 = .ok (.istore_n 3, 1) := by decide +kernel
theorem dX9_row_38 : decode cX9_row 38 = .ok (.iload_n 3, 1) := by decide +kernel
theorem dX9_row_39 : decode cX9_row 39 = .ok (.aload_n 0, 1) := by decide +kernel
theorem dX9_row_40 : decode cX9_row 40 = .ok (.getfield 96, 3) := by decide +kernel
theorem dX9_row_43 : decode cX9_row 43 = .ok (.if_icmp .ge 26, 3) := by decide +kernel
theorem dX9_row_46 : decode cX9_row 46 = .ok (.aload_n 0, 1) := by decide +kernel
theorem dX9_row_47 : decode cX9_row 47 = .ok (.getfield 77, 3) := by decide +kernel
theorem dX9_row_50 : decode cX9_row 50 = .ok (.bipush 6, 2) := by decide +kernel
theorem dX9_row_52 : decode cX9_row 52 = .ok (.iload_n 2, 1) := by decide +kernel
theorem dX9_row_53 : decode cX9_row 53 = .ok (.imul, 1) := by decide +kernel
theorem dX9_row_54 : decode cX9_row 54 = .ok (.iload_n 3, 1) := by decide +kernel
theorem dX9_row_55 : decode cX9_row 55 = .ok (.iadd, 1) := by decide +kernel
theorem dX9_row_56 : decode cX9_row 56 = .ok (.aload_n 0, 1) := by decide +kernel
theorem dX9_row_57 : decode cX9_row 57 = .ok (.iload_n 2, 1) := by decide +kernel
theorem dX9_row_58 : decode cX9_row 58 = .ok (.iload_n 3, 1) := by decide +kernel
theorem dX9_row_59 : decode cX9_row 59 = .ok (.invokevirtual 223, 3) := by decide +kernel
theorem dX9_row_62 : decode cX9_row 62 = .ok (.iastore, 1) := by decide +kernel
theorem dX9_row_63 : decode cX9_row 63 = .ok (.iinc 3 1, 3) := by decide +kernel
theorem dX9_row_66 : decode cX9_row 66 = .ok (.goto (-28), 3) := by decide +kernel
theorem dX9_row_69 : decode cX9_row 69 = .ok (.iinc 2 1, 3) := by decide +kernel
theorem dX9_row_72 : decode cX9_row 72 = .ok (.goto (-51), 3) := by decide +kernel
theorem dX9_row_75 : decode cX9_row 75 = .ok (.ldc 226, 2) := by decide +kernel
theorem dX9_row_77 : decode cX9_row 77 = .ok (.istore_n 2, 1) := by decide +kernel
theorem dX9_row_78 : decode cX9_row 78 = .ok (.iconst 1, 1) := by decide +kernel
theorem dX9_row_79 : decode cX9_row 79 = .ok (.istore_n 3, 1) := by decide +kernel
theorem dX9_row_80 : decode cX9_row 80 = .ok (.iload_n 3, 1) := by decide +kernel
theorem dX9_row_81 : decode cX9_row 81 = .ok (.ifCond .eq 107, 3) := by decide +kernel
theorem dX9_row_84 : decode cX9_row 84 = .ok (.iconst 0, 1) := by decide +kernel
theorem dX9_row_85 : decode cX9_row 85 = .ok (.istore 4, 2) := by decide +kernel
theorem dX9_row_87 : decode cX9_row 87 = .ok (.iconst 1, 1) := by decide +kernel
theorem dX9_row_88 : decode cX9_row 88 = .ok (.istore 5, 2) := by decide +kernel
theorem dX9_row_90 : decode cX9_row 90 = .ok (.iload 5, 2) := by decide +kernel
theorem dX9_row_92 : decode cX9_row 92 = .ok (.aload_n 0, 1) := by decide +kernel
theorem dX9_row_93 : decode cX9_row 93 = .ok (.getfield 96, 3) := by decide +kernel
theorem dX9_row_96 : decode cX9_row 96 = .ok (.if_icmp .ge 39, 3) := by decide +kernel
theorem dX9_row_99 : decode cX9_row 99 = .ok (.iload 4, 2) := by decide +kernel
theorem dX9_row_101 : decode cX9_row 101 = .ok (.aload_n 0, 1) := by decide +kernel
theorem dX9_row_102 : decode cX9_row 102 = .ok (.getfield 77, 3) := by decide +kernel
theorem dX9_row_105 : decode cX9_row 105 = .ok (.bipush 6, 2) := by decide +kernel
theorem dX9_row_107 : decode cX9_row 107 = .ok (.aload_n 0, 1) := by decide +kernel
theorem dX9_row_108 : decode cX9_row 108 = .ok (.getfield 71, 3) := by decide +kernel
theorem dX9_row_111 : decode cX9_row 111 = .ok (.iload 5, 2) := by decide +kernel
theorem dX9_row_113 : decode cX9_row 113 = .ok (.iconst 1, 1) := by decide +kernel
theorem dX9_row_114 : decode cX9_row 114 = .ok (.isub, 1) := by decide +kernel
theorem dX9_row_115 : decode cX9_row 115 = .ok (.iaload, 1) := by decide +kernel
theorem dX9_row_116 : decode cX9_row 116 = .ok (.imul, 1) := by decide +kernel
theorem dX9_row_117 : decode cX9_row 117 = .ok (.aload_n 0, 1) := by decide +kernel
theorem dX9_row_118 : decode cX9_row 118 = .ok (.getfield 71, 3) := by decide +kernel
theorem dX9_row_121 : decode cX9_row 121 = .ok (.iload 5, 2) := by decide +kernel
theorem dX9_row_123 : decode cX9_row 123 = .ok (.iaload, 1) := by decide +kernel
theorem dX9_row_124 : decode cX9_row 124 = .ok (.iadd, 1) := by decide +kernel
theorem dX9_row_125 : decode cX9_row 125 = .ok (.iaload, 1) := by decide +kernel
theorem dX9_row_126 : decode cX9_row 126 = .ok (.iadd, 1) := by decide +kernel
theorem dX9_row_127 : decode cX9_row 127 = .ok (.istore 4, 2) := by decide +kernel
theorem dX9_row_129 : decode cX9_row 129 = .ok (.iinc 5 1, 3) := by decide +kernel
theorem dX9_row_132 : decode cX9_row 132 = .ok (.goto (-42), 3) := by decide +kernel
theorem dX9_row_135 : decode cX9_row 135 = .ok (.iconst 0, 1) := by decide +kernel
theorem dX9_row_136 : decode cX9_row 136 = .ok (.istore 5, 2) := by decide +kernel
theorem dX9_row_138 : decode cX9_row 138 = .ok (.iload 5, 2) := by decide +kernel
theorem dX9_row_140 : decode cX9_row 140 = .ok (.aload_n 0, 1) := by decide +kernel
theorem dX9_row_141 : decode cX9_row 141 = .ok (.getfield 96, 3) := by decide +kernel
theorem dX9_row_144 : decode cX9_row 144 = .ok (.if_icmp .ge 29, 3) := by decide +kernel
theorem dX9_row_147 : decode cX9_row 147 = .ok (.iload 4, 2) := by decide +kernel
theorem dX9_row_149 : decode cX9_row 149 = .ok (.iload_n 2, 1) := by decide +kernel
theorem dX9_row_150 : decode cX9_row 150 = .ok (.if_icmp .ge 23, 3) := by decide +kernel
theorem dX9_row_153 : decode cX9_row 153 = .ok (.aload_n 0, 1) := by decide +kernel
theorem dX9_row_154 : decode cX9_row 154 = .ok (.getfield 74, 3) := by decide +kernel
theorem dX9_row_157 : decode cX9_row 157 = .ok (.iload 5, 2) := by decide +kernel
theorem dX9_row_159 : decode cX9_row 159 = .ok (.aload_n 0, 1) := by decide +kernel
theorem dX9_row_160 : decode cX9_row 160 = .ok (.getfield 71, 3) := by decide +kernel
theorem dX9_row_163 : decode cX9_row 163 = .ok (.iload 5, 2) := by decide +kernel
theorem dX9_row_165 : decode cX9_row 165 = .ok (.iaload, 1) := by decide +kernel
theorem dX9_row_166 : decode cX9_row 166 = .ok (.iastore, 1) := by decide +kernel
theorem dX9_row_167 : decode cX9_row 167 = .ok (.iinc 5 1, 3) := by decide +kernel
theorem dX9_row_170 : decode cX9_row 170 = .ok (.goto (-32), 3) := by decide +kernel
theorem dX9_row_173 : decode cX9_row 173 = .ok (.iload_n 2, 1) := by decide +kernel
theorem dX9_row_174 : decode cX9_row 174 = .ok (.iload 4, 2) := by decide +kernel
theorem dX9_row_176 : decode cX9_row 176 = .ok (.invokestatic 159, 3) := by decide +kernel
theorem dX9_row_179 : decode cX9_row 179 = .ok (.istore_n 2, 1) := by decide +kernel
theorem dX9_row_180 : decode cX9_row 180 = .ok (.aload_n 0, 1) := by decide +kernel
theorem dX9_row_181 : decode cX9_row 181 = .ok (.invokevirtual 227, 3) := by decide +kernel
theorem dX9_row_184 : decode cX9_row 184 = .ok (.istore_n 3, 1) := by decide +kernel
theorem dX9_row_185 : decode cX9_row 185 = .ok (.goto (-105), 3) := by decide +kernel
theorem dX9_row_188 : decode cX9_row 188 = .ok (.iload_n 1, 1) := by decide +kernel
theorem dX9_row_189 : decode cX9_row 189 = .ok (.iconst (-1), 1) := by decide +kernel
theorem dX9_row_190 : decode cX9_row 190 = .ok (.if_icmp .ne 7, 3) := by decide +kernel
theorem dX9_row_193 : decode cX9_row 193 = .ok (.iload_n 2, 1) := by decide +kernel
theorem dX9_row_194 : decode cX9_row 194 = .ok (.goto 22, 3) := by decide +kernel
theorem dX9_row_197 : decode cX9_row 197 = .ok (.iload_n 1, 1) := by decide +kernel
theorem dX9_row_198 : decode cX9_row 198 = .ok (.aload_n 0, 1) := by decide +kernel
theorem dX9_row_199 : decode cX9_row 199 = .ok (.getfield 96, 3) := by decide +kernel
theorem dX9_row_202 : decode cX9_row 202 = .ok (.if_icmp .ge 12, 3) := by decide +kernel
theorem dX9_row_205 : decode cX9_row 205 = .ok (.aload_n 0, 1) := by decide +kernel
theorem dX9_row_206 : decode cX9_row 206 = .ok (.getfield 74, 3) := by decide +kernel
theorem dX9_row_209 : decode cX9_row 209 = .ok (.iload_n 1, 1) := by decide +kernel
theorem dX9_row_210 : decode cX9_row 210 = .ok (.iaload, 1) := by decide +kernel
theorem dX9_row_211 : decode cX9_row 211 = .ok (.goto 5, 3) := by decide +kernel
theorem dX9_row_214 : decode cX9_row 214 = .ok (.bipush (-5), 2) := by decide +kernel
theorem dX9_row_216 : decode cX9_row 216 = .ok (.ireturn, 1) := by decide +kernel
theorem dX9_note_0 : decode cX9_note 0 = .ok (.aload_n 0, 1) := by decide +kernel
theorem dX9_note_1 : decode cX9_note 1 = .ok (.iload_n 1, 1) := by decide +kernel
theorem dX9_note_2 : decode cX9_note 2 = .ok (.invokevirtual 184, 3) := by decide +kernel
theorem dX9_note_5 : decode cX9_note 5 = .ok (.ifCond .eq 36, 3) := by decide +kernel
theorem dX9_note_8 : decode cX9_note 8 = .ok (.iload_n 2, 1) := by decide +kernel
theorem dX9_note_9 : decode cX9_note 9 = .ok (.iconst 0, 1) := by decide +kernel
theorem dX9_note_10 : decode cX9_note 10 = .ok (.bipush 8, 2) := by decide +kernel
theorem dX9_note_12 : decode cX9_note 12 = .ok (.invokestatic 15, 3) := by decide +kernel
theorem dX9_note_15 : decode cX9_note 15 = .ok (.ifCond .eq 26, 3) := by decide +kernel
theorem dX9_note_18 : decode cX9_note 18 = .ok (.iload_n 3, 1) := by decide +kernel
theorem dX9_note_19 : decode cX9_note 19 = .ok (.iconst 0, 1) := by decide +kernel
theorem dX9_note_20 : decode cX9_note 20 = .ok (.bipush 9, 2) := by decide +kernel
theorem dX9_note_22 : decode cX9_note 22 = .ok (.invokestatic 15, 3) := by decide +kernel
theorem dX9_note_25 : decode cX9_note 25 = .ok (.ifCond .eq 16, 3) := by decide +kernel
theorem dX9_note_28 : decode cX9_note 28 = .ok (.iload 4, 2) := by decide +kernel
theorem dX9_note_30 : decode cX9_note 30 = .ok (.ifCond .eq 16, 3) := by decide +kernel
theorem dX9_note_33 : decode cX9_note 33 = .ok (.iload 4, 2) := by decide +kernel
theorem dX9_note_35 : decode cX9_note 35 = .ok (.invokestatic 106, 3) := by decide +kernel
theorem dX9_note_38 : decode cX9_note 38 = .ok (.ifCond .ne 8, 3) := by decide +kernel
theorem dX9_note_41 : decode cX9_note 41 = .ok (.aload_n 0, 1) := by decide +kernel
theorem dX9_note_42 : decode cX9_note 42 = .ok (.invokevirtual 110, 3) := by decide +kernel
theorem dX9_note_45 : decode cX9_note 45 = .ok (.ireturn, 1) := by decide +kernel
theorem dX9_note_46 : decode cX9_note 46 = .ok (.aload_n 0, 1) := by decide +kernel
theorem dX9_note_47 : decode cX9_note 47 = .ok (.getfield 100, 3) := by decide +kernel
theorem dX9_note_50 : decode cX9_note 50 = .ok (.bipush 6, 2) := by decide +kernel
theorem dX9_note_52 : decode cX9_note 52 = .ok (.if_icmp .ne 8, 3) := by decide +kernel
theorem dX9_note_55 : decode cX9_note 55 = .ok (.aload_n 0, 1) := by decide +kernel
theorem dX9_note_56 : decode cX9_note 56 = .ok (.invokevirtual 114, 3) := by decide +kernel
theorem dX9_note_59 : decode cX9_note 59 = .ok (.ireturn, 1) := by decide +kernel
theorem dX9_note_60 : decode cX9_note 60 = .ok (.aload_n 0, 1) := by decide +kernel
theorem dX9_note_61 : decode cX9_note 61 = .ok (.getfield 50, 3) := by decide +kernel
theorem dX9_note_64 : decode cX9_note 64 = .ok (.aload_n 0, 1) := by decide +kernel
theorem dX9_note_65 : decode cX9_note 65 = .ok (.getfield 100, 3) := by decide +kernel
theorem dX9_note_68 : decode cX9_note 68 = .ok (.iload_n 1, 1) := by decide +kernel
theorem dX9_note_69 : decode cX9_note 69 = .ok (.iastore, 1) := by decide +kernel
theorem dX9_note_70 : decode cX9_note 70 = .ok (.aload_n 0, 1) := by decide +kernel
theorem dX9_note_71 : decode cX9_note 71 = .ok (.getfield 53, 3) := by decide +kernel
theorem dX9_note_74 : decode cX9_note 74 = .ok (.aload_n 0, 1) := by decide +kernel
theorem dX9_note_75 : decode cX9_note 75 = .ok (.getfield 100, 3) := by decide +kernel
theorem dX9_note_78 : decode cX9_note 78 = .ok (.iload_n 2, 1) := by decide +kernel
theorem dX9_note_79 : decode cX9_note 79 = .ok (.iastore, 1) := by decide +kernel
theorem dX9_note_80 : decode cX9_note 80 = .ok (.aload_n 0, 1) := by decide +kernel
theorem dX9_note_81 : decode cX9_note 81 = .ok (.getfield 56, 3) := by decide +kernel
theorem dX9_note_84 : decode cX9_note 84 = .ok (.aload_n 0, 1) := by decide +kernel
theorem dX9_note_85 : decode cX9_note 85 = .ok (.getfield 100, 3) := by decide +kernel
theorem dX9_note_88 : decode cX9_note 88 = .ok (.iload_n 3, 1) := by decide +kernel
theorem dX9_note_89 : decode cX9_note 89 = .ok (.iastore, 1) := by decide +kernel
theorem dX9_note_90 : decode cX9_note 90 = .ok (.aload_n 0, 1) := by decide +kernel
theorem dX9_note_91 : decode cX9_note 91 = .ok (.getfield 59, 3) := by decide +kernel
theorem dX9_note_94 : decode cX9_note 94 = .ok (.aload_n 0, 1) := by decide +kernel
theorem dX9_note_95 : decode cX9_note 95 = .ok (.getfield 100, 3) := by decide +kernel
theorem dX9_note_98 : decode cX9_note 98 = .ok (.iload 4, 2) := by decide +kernel
theorem dX9_note_100 : decode cX9_note 100 = .ok (.iastore, 1) := by decide +kernel
theorem dX9_note_101 : decode cX9_note 101 = .ok (.aload_n 0, 1) := by decide +kernel
theorem dX9_note_102 : decode cX9_note 102 = .ok (.dup, 1) := by decide +kernel
theorem dX9_note_103 : decode cX9_note 103 = .ok (.getfield 100, 3) := by decide +kernel
theorem dX9_note_106 : decode cX9_note 106 = .ok (.iconst 1, 1) := by decide +kernel
theorem dX9_note_107 : decode cX9_note 107 = .ok (.iadd, 1) := by decide +kernel
theorem dX9_note_108 : decode cX9_note 108 = .ok (.putfield 100, 3) := by decide +kernel
theorem dX9_note_111 : decode cX9_note 111 = .ok (.aload_n 0, 1) := by decide +kernel
theorem dX9_note_112 : decode cX9_note 112 = .ok (.getfield 100, 3) := by decide +kernel
theorem dX9_note_115 : decode cX9_note 115 = .ok (.ireturn, 1) := by decide +kernel
theorem dX9_forget_0 : decode cX9_forget 0 = .ok (.aload_n 0, 1) := by decide +kernel
theorem dX9_forget_1 : decode cX9_forget 1 = .ok (.getfield 100, 3) := by decide +kernel
theorem dX9_forget_4 : decode cX9_forget 4 = .ok (.istore_n 1, 1) := by decide +kernel
theorem dX9_forget_5 : decode cX9_forget 5 = .ok (.aload_n 0, 1) := by decide +kernel
theorem dX9_forget_6 : decode cX9_forget 6 = .ok (.iconst 0, 1) := by decide +kernel
theorem dX9_forget_7 : decode cX9_forget 7 = .ok (.putfield 100, 3) := by decide +kernel
theorem dX9_forget_10 : decode cX9_forget 10 = .ok (.iload_n 1, 1) := by decide +kernel
theorem dX9_forget_11 : decode cX9_forget 11 = .ok (.ireturn, 1) := by decide +kernel
theorem dX9_isSo_0 : decode cX9_isSo 0 = .ok (.iconst 1, 1) := by decide +kernel
theorem dX9_isSo_1 : decode cX9_isSo 1 = .ok (.istore 4, 2) := by decide +kernel
theorem dX9_isSo_3 : decode cX9_isSo 3 = .ok (.iconst 0, 1) := by decide +kernel
theorem dX9_isSo_4 : decode cX9_isSo 4 = .ok (.istore 5, 2) := by decide +kernel
theorem dX9_isSo_6 : decode cX9_isSo 6 = .ok (.iload 5, 2) := by decide +kernel
theorem dX9_isSo_8 : decode cX9_isSo 8 = .ok (.aload_n 0, 1) := by decide +kernel
theorem dX9_isSo_9 : decode cX9_isSo 9 = .ok (.getfield 100, 3) := by decide +kernel
theorem dX9_isSo_12 : decode cX9_isSo 12 = .ok (.if_icmp .ge 73, 3) := by decide +kernel
theorem dX9_isSo_15 : decode cX9_isSo 15 = .ok (.iload_n 2, 1) := by decide +kernel
theorem dX9_isSo_16 : decode cX9_isSo 16 = .ok (.iload_n 3, 1) := by decide +kernel
theorem dX9_isSo_17 : decode cX9_isSo 17 = .ok (.aload_n 0, 1) := by decide +kernel
theorem dX9_isSo_18 : decode cX9_isSo 18 = .ok (.getfield 53, 3) := by decide +kernel
theorem dX9_isSo_21 : decode cX9_isSo 21 = .ok (.iload 5, 2) := by decide +kernel
theorem dX9_isSo_23 : decode cX9_isSo 23 = .ok (.iaload, 1) := by decide +kernel
theorem dX9_isSo_24 : decode cX9_isSo 24 = .ok (.aload_n 0, 1) := by decide +kernel
theorem dX9_isSo_25 : decode cX9_isSo 25 = .ok (.getfield 56, 3) := by decide +kernel
theorem dX9_isSo_28 : decode cX9_isSo 28 = .ok (.iload 5, 2) := by decide +kernel
theorem dX9_isSo_30 : decode cX9_isSo 30 = .ok (.iaload, 1) := by decide +kernel
theorem dX9_isSo_31 : decode cX9_isSo 31 = .ok (.invokestatic 177, 3) := by decide +kernel
theorem dX9_isSo_34 : decode cX9_isSo 34 = .ok (.aload_n 0, 1) := by decide +kernel
theorem dX9_isSo_35 : decode cX9_isSo 35 = .ok (.getfield 59, 3) := by decide +kernel
theorem dX9_isSo_38 : decode cX9_isSo 38 = .ok (.iload 5, 2) := by decide +kernel
theorem dX9_isSo_40 : decode cX9_isSo 40 = .ok (.iaload, 1) := by decide +kernel
theorem dX9_isSo_41 : decode cX9_isSo 41 = .ok (.if_icmp .ne 7, 3) := by decide +kernel
theorem dX9_isSo_44 : decode cX9_isSo 44 = .ok (.iconst 1, 1) := by decide +kernel
theorem dX9_isSo_45 : decode cX9_isSo 45 = .ok (.goto 4, 3) := by decide +kernel
theorem dX9_isSo_48 : decode cX9_isSo 48 = .ok (.iconst 0, 1) := by decide +kernel
theorem dX9_isSo_49 : decode cX9_isSo 49 = .ok (.istore 6, 2) := by decide +kernel
theorem dX9_isSo_51 : decode cX9_isSo 51 = .ok (.iload 4, 2) := by decide +kernel
theorem dX9_isSo_53 : decode cX9_isSo 53 = .ok (.ifCond .eq 23, 3) := by decide +kernel
theorem dX9_isSo_56 : decode cX9_isSo 56 = .ok (.aload_n 0, 1) := by decide +kernel
theorem dX9_isSo_57 : decode cX9_isSo 57 = .ok (.getfield 50, 3) := by decide +kernel
theorem dX9_isSo_60 : decode cX9_isSo 60 = .ok (.iload 5, 2) := by decide +kernel
theorem dX9_isSo_62 : decode cX9_isSo 62 = .ok (.iaload, 1) := by decide +kernel
theorem dX9_isSo_63 : decode cX9_isSo 63 = .ok (.iload_n 1, 1) := by decide +kernel
theorem dX9_isSo_64 : decode cX9_isSo 64 = .ok (.if_icmp .ne 8, 3) := by decide +kernel
theorem dX9_isSo_67 : decode cX9_isSo 67 = .ok (.iload 6, 2) := by decide +kernel
theorem dX9_isSo_69 : decode cX9_isSo 69 = .ok (.ifCond .eq 7, 3) := by decide +kernel
theorem dX9_isSo_72 : decode cX9_isSo 72 = .ok (.iconst 1, 1) := by decide +kernel
theorem dX9_isSo_73 : decode cX9_isSo 73 = .ok (.goto 4, 3) := by decide +kernel
theorem dX9_isSo_76 : decode cX9_isSo 76 = .ok (.iconst 0, 1) := by decide +kernel
theorem dX9_isSo_77 : decode cX9_isSo 77 = .ok (.istore 4, 2) := by decide +kernel
theorem dX9_isSo_79 : decode cX9_isSo 79 = .ok (.iinc 5 1, 3) := by decide +kernel
theorem dX9_isSo_82 : decode cX9_isSo 82 = .ok (.goto (-76), 3) := by decide +kernel
theorem dX9_isSo_85 : decode cX9_isSo 85 = .ok (.iload 4, 2) := by decide +kernel
theorem dX9_isSo_87 : decode cX9_isSo 87 = .ok (.ireturn, 1) := by decide +kernel
theorem dX9_kindsOf_0 : decode cX9_kindsOf 0 = .ok (.iconst 0, 1) := by decide +kernel
theorem dX9_kindsOf_1 : decode cX9_kindsOf 1 = .ok (.istore_n 2, 1) := by decide +kernel
theorem dX9_kindsOf_2 : decode cX9_kindsOf 2 = .ok (.iconst 0, 1) := by decide +kernel
theorem dX9_kindsOf_3 : decode cX9_kindsOf 3 = .ok (.istore_n 3, 1) := by decide +kernel
theorem dX9_kindsOf_4 : decode cX9_kindsOf 4 = .ok (.iload_n 3, 1) := by decide +kernel
theorem dX9_kindsOf_5 : decode cX9_kindsOf 5 = .ok (.iconst 5, 1) := by decide +kernel
theorem dX9_kindsOf_6 : decode cX9_kindsOf 6 = .ok (.if_icmp .gt 34, 3) := by decide +kernel
theorem dX9_kindsOf_9 : decode cX9_kindsOf 9 = .ok (.iload_n 2, 1) := by decide +kernel
theorem dX9_kindsOf_10 : decode cX9_kindsOf 10 = .ok (.aload_n 0, 1) := by decide +kernel
theorem dX9_kindsOf_11 : decode cX9_kindsOf 11 = .ok (.iload_n 1, 1) := by decide +kernel
theorem dX9_kindsOf_12 : decode cX9_kindsOf 12 = .ok (.iload_n 3, 1) := by decide +kernel
theorem dX9_kindsOf_13 : decode cX9_kindsOf 13 = .ok (.aload_n 0, 1) := by decide +kernel
theorem dX9_kindsOf_14 : decode cX9_kindsOf 14 = .ok (.getfield 41, 3) := by decide +kernel
theorem dX9_kindsOf_17 : decode cX9_kindsOf 17 = .ok (.iload_n 1, 1) := by decide +kernel
theorem dX9_kindsOf_18 : decode cX9_kindsOf 18 = .ok (.iaload, 1) := by decide +kernel
theorem dX9_kindsOf_19 : decode cX9_kindsOf 19 = .ok (.invokevirtual 230, 3) := by decide +kernel
theorem dX9_kindsOf_22 : decode cX9_kindsOf 22 = .ok (.ifCond .eq 9, 3) := by decide +kernel
theorem dX9_kindsOf_25 : decode cX9_kindsOf 25 = .ok (.iconst 1, 1) := by decide +kernel
theorem dX9_kindsOf_26 : decode cX9_kindsOf 26 = .ok (.iload_n 3, 1) := by decide +kernel
theorem dX9_kindsOf_27 : decode cX9_kindsOf 27 = .ok (.ishl, 1) := by decide +kernel
theorem dX9_kindsOf_28 : decode cX9_kindsOf 28 = .ok (.goto 4, 3) := by decide +kernel
theorem dX9_kindsOf_31 : decode cX9_kindsOf 31 = .ok (.iconst 0, 1) := by decide +kernel
theorem dX9_kindsOf_32 : decode cX9_kindsOf 32 = .ok (.ior, 1) := by decide +kernel
theorem dX9_kindsOf_33 : decode cX9_kindsOf 33 = .ok (.istore_n 2, 1) := by decide +kernel
theorem dX9_kindsOf_34 : decode cX9_kindsOf 34 = .ok (.iinc 3 1, 3) := by decide +kernel
theorem dX9_kindsOf_37 : decode cX9_kindsOf 37 = .ok (.goto (-33), 3) := by decide +kernel
theorem dX9_kindsOf_40 : decode cX9_kindsOf 40 = .ok (.iload_n 2, 1) := by decide +kernel
theorem dX9_kindsOf_41 : decode cX9_kindsOf 41 = .ok (.ireturn, 1) := by decide +kernel
theorem dX9_is_0 : decode cX9_is 0 = .ok (.aload_n 0, 1) := by decide +kernel
theorem dX9_is_1 : decode cX9_is 1 = .ok (.iload_n 1, 1) := by decide +kernel
theorem dX9_is_2 : decode cX9_is 2 = .ok (.invokevirtual 184, 3) := by decide +kernel
theorem dX9_is_5 : decode cX9_is 5 = .ok (.ifCond .eq 11, 3) := by decide +kernel
theorem dX9_is_8 : decode cX9_is 8 = .ok (.aload_n 0, 1) := by decide +kernel
theorem dX9_is_9 : decode cX9_is 9 = .ok (.iload_n 1, 1) := by decide +kernel
theorem dX9_is_10 : decode cX9_is 10 = .ok (.invokevirtual 233, 3) := by decide +kernel
theorem dX9_is_13 : decode cX9_is 13 = .ok (.goto 7, 3) := by decide +kernel
theorem dX9_is_16 : decode cX9_is 16 = .ok (.aload_n 0, 1) := by decide +kernel
theorem dX9_is_17 : decode cX9_is 17 = .ok (.invokevirtual 110, 3) := by decide +kernel
theorem dX9_is_20 : decode cX9_is 20 = .ok (.ireturn, 1) := by decide +kernel
theorem dX9_alike_0 : decode cX9_alike 0 = .ok (.iconst 0, 1) := by decide +kernel
theorem dX9_alike_1 : decode cX9_alike 1 = .ok (.istore 4, 2) := by decide +kernel
theorem dX9_alike_3 : decode cX9_alike 3 = .ok (.iconst 0, 1) := by decide +kernel
theorem dX9_alike_4 : decode cX9_alike 4 = .ok (.istore 5, 2) := by decide +kernel
theorem dX9_alike_6 : decode cX9_alike 6 = .ok (.iload 5, 2) := by decide +kernel
theorem dX9_alike_8 : decode cX9_alike 8 = .ok (.iconst 5, 1) := by decide +kernel
theorem dX9_alike_9 : decode cX9_alike 9 = .ok (.if_icmp .gt 115, 3) := by decide +kernel
theorem dX9_alike_12 : decode cX9_alike 12 = .ok (.iconst 0, 1) := by decide +kernel
theorem dX9_alike_13 : decode cX9_alike 13 = .ok (.istore 6, 2) := by decide +kernel
theorem dX9_alike_15 : decode cX9_alike 15 = .ok (.iconst 0, 1) := by decide +kernel
theorem dX9_alike_16 : decode cX9_alike 16 = .ok (.istore 7, 2) := by decide +kernel
theorem dX9_alike_18 : decode cX9_alike 18 = .ok (.iload 7, 2) := by decide +kernel
theorem dX9_alike_20 : decode cX9_alike 20 = .ok (.iconst 5, 1) := by decide +kernel
theorem dX9_alike_21 : decode cX9_alike 21 = .ok (.if_icmp .gt 88, 3) := by decide +kernel
theorem dX9_alike_24 : decode cX9_alike 24 = .ok (.iload 5, 2) := by decide +kernel
theorem dX9_alike_26 : decode cX9_alike 26 = .ok (.aload_n 0, 1) := by decide +kernel
theorem dX9_alike_27 : decode cX9_alike 27 = .ok (.getfield 41, 3) := by decide +kernel
theorem dX9_alike_30 : decode cX9_alike 30 = .ok (.iload_n 1, 1) := by decide +kernel
theorem dX9_alike_31 : decode cX9_alike 31 = .ok (.iaload, 1) := by decide +kernel
theorem dX9_alike_32 : decode cX9_alike 32 = .ok (.iload_n 3, 1) := by decide +kernel
theorem dX9_alike_33 : decode cX9_alike 33 = .ok (.aload_n 0, 1) := by decide +kernel
theorem dX9_alike_34 : decode cX9_alike 34 = .ok (.getfield 47, 3) := by decide +kernel
theorem dX9_alike_37 : decode cX9_alike 37 = .ok (.iload_n 1, 1) := by decide +kernel
theorem dX9_alike_38 : decode cX9_alike 38 = .ok (.iaload, 1) := by decide +kernel
theorem dX9_alike_39 : decode cX9_alike 39 = .ok (.invokestatic 177, 3) := by decide +kernel
theorem dX9_alike_42 : decode cX9_alike 42 = .ok (.iload 7, 2) := by decide +kernel
theorem dX9_alike_44 : decode cX9_alike 44 = .ok (.aload_n 0, 1) := by decide +kernel
theorem dX9_alike_45 : decode cX9_alike 45 = .ok (.getfield 41, 3) := by decide +kernel
theorem dX9_alike_48 : decode cX9_alike 48 = .ok (.iload_n 1, 1) := by decide +kernel
theorem dX9_alike_49 : decode cX9_alike 49 = .ok (.iaload, 1) := by decide +kernel
theorem dX9_alike_50 : decode cX9_alike 50 = .ok (.iload_n 3, 1) := by decide +kernel
theorem dX9_alike_51 : decode cX9_alike 51 = .ok (.aload_n 0, 1) := by decide +kernel
theorem dX9_alike_52 : decode cX9_alike 52 = .ok (.getfield 47, 3) := by decide +kernel
theorem dX9_alike_55 : decode cX9_alike 55 = .ok (.iload_n 1, 1) := by decide +kernel
theorem dX9_alike_56 : decode cX9_alike 56 = .ok (.iaload, 1) := by decide +kernel
theorem dX9_alike_57 : decode cX9_alike 57 = .ok (.invokestatic 177, 3) := by decide +kernel
theorem dX9_alike_60 : decode cX9_alike 60 = .ok (.if_icmp .ne 7, 3) := by decide +kernel
theorem dX9_alike_63 : decode cX9_alike 63 = .ok (.iconst 1, 1) := by decide +kernel
theorem dX9_alike_64 : decode cX9_alike 64 = .ok (.goto 4, 3) := by decide +kernel
theorem dX9_alike_67 : decode cX9_alike 67 = .ok (.iconst 0, 1) := by decide +kernel
theorem dX9_alike_68 : decode cX9_alike 68 = .ok (.istore 8, 2) := by decide +kernel
theorem dX9_alike_70 : decode cX9_alike 70 = .ok (.iload 6, 2) := by decide +kernel
theorem dX9_alike_72 : decode cX9_alike 72 = .ok (.iload_n 2, 1) := by decide +kernel
theorem dX9_alike_73 : decode cX9_alike 73 = .ok (.iload 5, 2) := by decide +kernel
theorem dX9_alike_75 : decode cX9_alike 75 = .ok (.invokestatic 236, 3) := by decide +kernel
theorem dX9_alike_78 : decode cX9_alike 78 = .ok (.ifCond .eq 21, 3) := by decide +kernel
theorem dX9_alike_81 : decode cX9_alike 81 = .ok (.iload_n 2, 1) := by decide +kernel
theorem dX9_alike_82 : decode cX9_alike 82 = .ok (.iload 7, 2) := by decide +kernel
theorem dX9_alike_84 : decode cX9_alike 84 = .ok (.invokestatic 236, 3) := by decide +kernel
theorem dX9_alike_87 : decode cX9_alike 87 = .ok (.ifCond .eq 12, 3) := by decide +kernel
theorem dX9_alike_90 : decode cX9_alike 90 = .ok (.iload 8, 2) := by decide +kernel
theorem dX9_alike_92 : decode cX9_alike 92 = .ok (.ifCond .eq 7, 3) := by decide +kernel
theorem dX9_alike_95 : decode cX9_alike 95 = .ok (.iconst 1, 1) := by decide +kernel
theorem dX9_alike_96 : decode cX9_alike 96 = .ok (.goto 4, 3) := by decide +kernel
theorem dX9_alike_99 : decode cX9_alike 99 = .ok (.iconst 0, 1) := by decide +kernel
theorem dX9_alike_100 : decode cX9_alike 100 = .ok (.iadd, 1) := by decide +kernel
theorem dX9_alike_101 : decode cX9_alike 101 = .ok (.istore 6, 2) := by decide +kernel
theorem dX9_alike_103 : decode cX9_alike 103 = .ok (.iinc 7 1, 3) := by decide +kernel
theorem dX9_alike_106 : decode cX9_alike 106 = .ok (.goto (-88), 3) := by decide +kernel
theorem dX9_alike_109 : decode cX9_alike 109 = .ok (.iload 4, 2) := by decide +kernel
theorem dX9_alike_111 : decode cX9_alike 111 = .ok (.iload 6, 2) := by decide +kernel
theorem dX9_alike_113 : decode cX9_alike 113 = .ok (.invokestatic 196, 3) := by decide +kernel
theorem dX9_alike_116 : decode cX9_alike 116 = .ok (.istore 4, 2) := by decide +kernel
theorem dX9_alike_118 : decode cX9_alike 118 = .ok (.iinc 5 1, 3) := by decide +kernel
theorem dX9_alike_121 : decode cX9_alike 121 = .ok (.goto (-115), 3) := by decide +kernel
theorem dX9_alike_124 : decode cX9_alike 124 = .ok (.iload 4, 2) := by decide +kernel
theorem dX9_alike_126 : decode cX9_alike 126 = .ok (.ireturn, 1) := by decide +kernel
theorem dX9_next_0 : decode cX9_next 0 = .ok (.aload_n 0, 1) := by decide +kernel
theorem dX9_next_1 : decode cX9_next 1 = .ok (.iload_n 1, 1) := by decide +kernel
theorem dX9_next_2 : decode cX9_next 2 = .ok (.invokevirtual 184, 3) := by decide +kernel
theorem dX9_next_5 : decode cX9_next 5 = .ok (.ifCond .ne 8, 3) := by decide +kernel
theorem dX9_next_8 : decode cX9_next 8 = .ok (.aload_n 0, 1) := by decide +kernel
theorem dX9_next_9 : decode cX9_next 9 = .ok (.invokevirtual 110, 3) := by decide +kernel
theorem dX9_next_12 : decode cX9_next 12 = .ok (.ireturn, 1) := by decide +kernel
theorem dX9_next_13 : decode cX9_next 13 = .ok (.aload_n 0, 1) := by decide +kernel
theorem dX9_next_14 : decode cX9_next 14 = .ok (.iload_n 1, 1) := by decide +kernel
theorem dX9_next_15 : decode cX9_next 15 = .ok (.invokevirtual 233, 3) := by decide +kernel
theorem dX9_next_18 : decode cX9_next 18 = .ok (.istore_n 2, 1) := by decide +kernel
theorem dX9_next_19 : decode cX9_next 19 = .ok (.iconst (-1), 1) := by decide +kernel
theorem dX9_next_20 : decode cX9_next 20 = .ok (.istore_n 3, 1) := by decide +kernel
theorem dX9_next_21 : decode cX9_next 21 = .ok (.ldc 226, 2) := by decide +kernel
theorem dX9_next_23 : decode cX9_next 23 = .ok (.istore 4, 2) := by decide +kernel
theorem dX9_next_25 : decode cX9_next 25 = .ok (.iconst 0, 1) := by decide +kernel
theorem dX9_next_26 : decode cX9_next 26 = .ok (.istore 5, 2) := by decide +kernel
theorem dX9_next_28 : decode cX9_next 28 = .ok (.iload 5, 2) := by decide +kernel
theorem dX9_next_30 : decode cX9_next 30 = .ok (.bipush 9, 2) := by decide +kernel
theorem dX9_next_32 : decode cX9_next 32 = .ok (.if_icmp .ge 46, 3) := by decide +kernel
theorem dX9_next_35 : decode cX9_next 35 = .ok (.iload_n 2, 1) := by decide +kernel
theorem dX9_next_36 : decode cX9_next 36 = .ok (.ifCond .eq 42, 3) := by decide +kernel
theorem dX9_next_39 : decode cX9_next 39 = .ok (.aload_n 0, 1) := by decide +kernel
theorem dX9_next_40 : decode cX9_next 40 = .ok (.iload_n 1, 1) := by decide +kernel
theorem dX9_next_41 : decode cX9_next 41 = .ok (.iload_n 2, 1) := by decide +kernel
theorem dX9_next_42 : decode cX9_next 42 = .ok (.iload 5, 2) := by decide +kernel
theorem dX9_next_44 : decode cX9_next 44 = .ok (.invokevirtual 239, 3) := by decide +kernel
theorem dX9_next_47 : decode cX9_next 47 = .ok (.istore 6, 2) := by decide +kernel
theorem dX9_next_49 : decode cX9_next 49 = .ok (.iload 6, 2) := by decide +kernel
theorem dX9_next_51 : decode cX9_next 51 = .ok (.iload 4, 2) := by decide +kernel
theorem dX9_next_53 : decode cX9_next 53 = .ok (.if_icmp .ge 8, 3) := by decide +kernel
theorem dX9_next_56 : decode cX9_next 56 = .ok (.iload 5, 2) := by decide +kernel
theorem dX9_next_58 : decode cX9_next 58 = .ok (.goto 4, 3) := by decide +kernel
theorem dX9_next_61 : decode cX9_next 61 = .ok (.iload_n 3, 1) := by decide +kernel
theorem dX9_next_62 : decode cX9_next 62 = .ok (.istore_n 3, 1) := by decide +kernel
theorem dX9_next_63 : decode cX9_next 63 = .ok (.iload 4, 2) := by decide +kernel
theorem dX9_next_65 : decode cX9_next 65 = .ok (.iload 6, 2) := by decide +kernel
theorem dX9_next_67 : decode cX9_next 67 = .ok (.invokestatic 159, 3) := by decide +kernel
theorem dX9_next_70 : decode cX9_next 70 = .ok (.istore 4, 2) := by decide +kernel
theorem dX9_next_72 : decode cX9_next 72 = .ok (.iinc 5 1, 3) := by decide +kernel
theorem dX9_next_75 : decode cX9_next 75 = .ok (.goto (-47), 3) := by decide +kernel
theorem dX9_next_78 : decode cX9_next 78 = .ok (.iload_n 3, 1) := by decide +kernel
theorem dX9_next_79 : decode cX9_next 79 = .ok (.ireturn, 1) := by decide +kernel
theorem dX9_names_0 : decode cX9_names 0 = .ok (.aload_n 0, 1) := by decide +kernel
theorem dX9_names_1 : decode cX9_names 1 = .ok (.iload_n 1, 1) := by decide +kernel
theorem dX9_names_2 : decode cX9_names 2 = .ok (.invokevirtual 184, 3) := by decide +kernel
theorem dX9_names_5 : decode cX9_names 5 = .ok (.ifCond .eq 12, 3) := by decide +kernel
theorem dX9_names_8 : decode cX9_names 8 = .ok (.iload_n 2, 1) := by decide +kernel
theorem dX9_names_9 : decode cX9_names 9 = .ok (.iconst 0, 1) := by decide +kernel
theorem dX9_names_10 : decode cX9_names 10 = .ok (.iconst 1, 1) := by decide +kernel
theorem dX9_names_11 : decode cX9_names 11 = .ok (.invokestatic 15, 3) := by decide +kernel
theorem dX9_names_14 : decode cX9_names 14 = .ok (.ifCond .ne 8, 3) := by decide +kernel
theorem dX9_names_17 : decode cX9_names 17 = .ok (.aload_n 0, 1) := by decide +kernel
theorem dX9_names_18 : decode cX9_names 18 = .ok (.invokevirtual 110, 3) := by decide +kernel
theorem dX9_names_21 : decode cX9_names 21 = .ok (.ireturn, 1) := by decide +kernel
theorem dX9_names_22 : decode cX9_names 22 = .ok (.iconst 0, 1) := by decide +kernel
theorem dX9_names_23 : decode cX9_names 23 = .ok (.istore_n 3, 1) := by decide +kernel
theorem dX9_names_24 : decode cX9_names 24 = .ok (.iconst (-1), 1) := by decide +kernel
theorem dX9_names_25 : decode cX9_names 25 = .ok (.istore 4, 2) := by decide +kernel
theorem dX9_names_27 : decode cX9_names 27 = .ok (.iconst 1, 1) := by decide +kernel
theorem dX9_names_28 : decode cX9_names 28 = .ok (.istore 5, 2) := by decide +kernel
theorem dX9_names_30 : decode cX9_names 30 = .ok (.iload 5, 2) := by decide +kernel
theorem dX9_names_32 : decode cX9_names 32 = .ok (.sipush 4444, 3) := by decide +kernel
theorem dX9_names_35 : decode cX9_names 35 = .ok (.if_icmp .gt 49, 3) := by decide +kernel
theorem dX9_names_38 : decode cX9_names 38 = .ok (.iload 5, 2) := by decide +kernel
theorem dX9_names_40 : decode cX9_names 40 = .ok (.invokestatic 106, 3) := by decide +kernel
theorem dX9_names_43 : decode cX9_names 43 = .ok (.ifCond .eq 35, 3) := by decide +kernel
theorem dX9_names_46 : decode cX9_names 46 = .ok (.aload_n 0, 1) := by decide +kernel
theorem dX9_names_47 : decode cX9_names 47 = .ok (.iload_n 1, 1) := by decide +kernel
theorem dX9_names_48 : decode cX9_names 48 = .ok (.aload_n 0, 1) := by decide +kernel
theorem dX9_names_49 : decode cX9_names 49 = .ok (.getfield 38, 3) := by decide +kernel
theorem dX9_names_52 : decode cX9_names 52 = .ok (.iload_n 1, 1) := by decide +kernel
theorem dX9_names_53 : decode cX9_names 53 = .ok (.iaload, 1) := by decide +kernel
theorem dX9_names_54 : decode cX9_names 54 = .ok (.iload 5, 2) := by decide +kernel
theorem dX9_names_56 : decode cX9_names 56 = .ok (.invokevirtual 230, 3) := by decide +kernel
theorem dX9_names_59 : decode cX9_names 59 = .ok (.ifCond .eq 19, 3) := by decide +kernel
theorem dX9_names_62 : decode cX9_names 62 = .ok (.iload_n 3, 1) := by decide +kernel
theorem dX9_names_63 : decode cX9_names 63 = .ok (.ifCond .ne 8, 3) := by decide +kernel
theorem dX9_names_66 : decode cX9_names 66 = .ok (.iload 5, 2) := by decide +kernel
theorem dX9_names_68 : decode cX9_names 68 = .ok (.goto 5, 3) := by decide +kernel
theorem dX9_names_71 : decode cX9_names 71 = .ok (.iload 4, 2) := by decide +kernel
theorem dX9_names_73 : decode cX9_names 73 = .ok (.istore 4, 2) := by decide +kernel
theorem dX9_names_75 : decode cX9_names 75 = .ok (.iinc 3 1, 3) := by decide +kernel
theorem dX9_names_78 : decode cX9_names 78 = .ok (.iinc 5 1, 3) := by decide +kernel
theorem dX9_names_81 : decode cX9_names 81 = .ok (.goto (-51), 3) := by decide +kernel
theorem dX9_names_84 : decode cX9_names 84 = .ok (.iload_n 2, 1) := by decide +kernel
theorem dX9_names_85 : decode cX9_names 85 = .ok (.ifCond .ne 7, 3) := by decide +kernel
theorem dX9_names_88 : decode cX9_names 88 = .ok (.iload_n 3, 1) := by decide +kernel
theorem dX9_names_89 : decode cX9_names 89 = .ok (.goto 5, 3) := by decide +kernel
theorem dX9_names_92 : decode cX9_names 92 = .ok (.iload 4, 2) := by decide +kernel
theorem dX9_names_94 : decode cX9_names 94 = .ok (.ireturn, 1) := by decide +kernel
theorem dX9_whose_0 : decode cX9_whose 0 = .ok (.iload_n 1, 1) := by decide +kernel
theorem dX9_whose_1 : decode cX9_whose 1 = .ok (.iconst 0, 1) := by decide +kernel
theorem dX9_whose_2 : decode cX9_whose 2 = .ok (.bipush 8, 2) := by decide +kernel
theorem dX9_whose_4 : decode cX9_whose 4 = .ok (.invokestatic 15, 3) := by decide +kernel
theorem dX9_whose_7 : decode cX9_whose 7 = .ok (.ifCond .eq 23, 3) := by decide +kernel
theorem dX9_whose_10 : decode cX9_whose 10 = .ok (.iload_n 2, 1) := by decide +kernel
theorem dX9_whose_11 : decode cX9_whose 11 = .ok (.ifCond .eq 10, 3) := by decide +kernel
theorem dX9_whose_14 : decode cX9_whose 14 = .ok (.iload_n 2, 1) := by decide +kernel
theorem dX9_whose_15 : decode cX9_whose 15 = .ok (.invokestatic 106, 3) := by decide +kernel
theorem dX9_whose_18 : decode cX9_whose 18 = .ok (.ifCond .eq 12, 3) := by decide +kernel
theorem dX9_whose_21 : decode cX9_whose 21 = .ok (.aload_n 0, 1) := by decide +kernel
theorem dX9_whose_22 : decode cX9_whose 22 = .ok (.iload_n 2, 1) := by decide +kernel
theorem dX9_whose_23 : decode cX9_whose 23 = .ok (.iload_n 1, 1) := by decide +kernel
theorem dX9_whose_24 : decode cX9_whose 24 = .ok (.invokevirtual 205, 3) := by decide +kernel
theorem dX9_whose_27 : decode cX9_whose 27 = .ok (.goto 7, 3) := by decide +kernel
theorem dX9_whose_30 : decode cX9_whose 30 = .ok (.aload_n 0, 1) := by decide +kernel
theorem dX9_whose_31 : decode cX9_whose 31 = .ok (.invokevirtual 110, 3) := by decide +kernel
theorem dX9_whose_34 : decode cX9_whose 34 = .ok (.ireturn, 1) := by decide +kernel
theorem dX9_inchOf_0 : decode cX9_inchOf 0 = .ok (.iconst 4, 1) := by decide +kernel
theorem dX9_inchOf_1 : decode cX9_inchOf 1 = .ok (.iload_n 1, 1) := by decide +kernel
theorem dX9_inchOf_2 : decode cX9_inchOf 2 = .ok (.imul, 1) := by decide +kernel
theorem dX9_inchOf_3 : decode cX9_inchOf 3 = .ok (.ireturn, 1) := by decide +kernel
theorem dX9_gets_0 : decode cX9_gets 0 = .ok (.aload_n 0, 1) := by decide +kernel
theorem dX9_gets_1 : decode cX9_gets 1 = .ok (.iload_n 2, 1) := by decide +kernel
theorem dX9_gets_2 : decode cX9_gets 2 = .ok (.aload_n 0, 1) := by decide +kernel
theorem dX9_gets_3 : decode cX9_gets 3 = .ok (.iload 4, 2) := by decide +kernel
theorem dX9_gets_5 : decode cX9_gets 5 = .ok (.invokevirtual 242, 3) := by decide +kernel
theorem dX9_gets_8 : decode cX9_gets 8 = .ok (.invokevirtual 193, 3) := by decide +kernel
theorem dX9_gets_11 : decode cX9_gets 11 = .ok (.aload_n 0, 1) := by decide +kernel
theorem dX9_gets_12 : decode cX9_gets 12 = .ok (.iload_n 3, 1) := by decide +kernel
theorem dX9_gets_13 : decode cX9_gets 13 = .ok (.aload_n 0, 1) := by decide +kernel
theorem dX9_gets_14 : decode cX9_gets 14 = .ok (.iload 5, 2) := by decide +kernel
theorem dX9_gets_16 : decode cX9_gets 16 = .ok (.invokevirtual 242, 3) := by decide +kernel
theorem dX9_gets_19 : decode cX9_gets 19 = .ok (.invokevirtual 193, 3) := by decide +kernel
theorem dX9_gets_22 : decode cX9_gets 22 = .ok (.if_icmp .ne 7, 3) := by decide +kernel
theorem dX9_gets_25 : decode cX9_gets 25 = .ok (.iconst 1, 1) := by decide +kernel
theorem dX9_gets_26 : decode cX9_gets 26 = .ok (.goto 4, 3) := by decide +kernel
theorem dX9_gets_29 : decode cX9_gets 29 = .ok (.iconst 0, 1) := by decide +kernel
theorem dX9_gets_30 : decode cX9_gets 30 = .ok (.istore 6, 2) := by decide +kernel
theorem dX9_gets_32 : decode cX9_gets 32 = .ok (.iload 6, 2) := by decide +kernel
theorem dX9_gets_34 : decode cX9_gets 34 = .ok (.iload_n 1, 1) := by decide +kernel
theorem dX9_gets_35 : decode cX9_gets 35 = .ok (.ifCond .ne 7, 3) := by decide +kernel
theorem dX9_gets_38 : decode cX9_gets 38 = .ok (.iconst 1, 1) := by decide +kernel
theorem dX9_gets_39 : decode cX9_gets 39 = .ok (.goto 4, 3) := by decide +kernel
theorem dX9_gets_42 : decode cX9_gets 42 = .ok (.iconst 0, 1) := by decide +kernel
theorem dX9_gets_43 : decode cX9_gets 43 = .ok (.if_icmp .ne 7, 3) := by decide +kernel
theorem dX9_gets_46 : decode cX9_gets 46 = .ok (.iconst 2, 1) := by decide +kernel
theorem dX9_gets_47 : decode cX9_gets 47 = .ok (.goto 4, 3) := by decide +kernel
theorem dX9_gets_50 : decode cX9_gets 50 = .ok (.iconst 0, 1) := by decide +kernel
theorem dX9_gets_51 : decode cX9_gets 51 = .ok (.istore 7, 2) := by decide +kernel
theorem dX9_gets_53 : decode cX9_gets 53 = .ok (.iload 7, 2) := by decide +kernel
theorem dX9_gets_55 : decode cX9_gets 55 = .ok (.iload_n 1, 1) := by decide +kernel
theorem dX9_gets_56 : decode cX9_gets 56 = .ok (.ifCond .ne 8, 3) := by decide +kernel
theorem dX9_gets_59 : decode cX9_gets 59 = .ok (.iload 4, 2) := by decide +kernel
theorem dX9_gets_61 : decode cX9_gets 61 = .ok (.goto 5, 3) := by decide +kernel
theorem dX9_gets_64 : decode cX9_gets 64 = .ok (.iload 5, 2) := by decide +kernel
theorem dX9_gets_66 : decode cX9_gets 66 = .ok (.isub, 1) := by decide +kernel
theorem dX9_gets_67 : decode cX9_gets 67 = .ok (.ireturn, 1) := by decide +kernel
theorem dX9_court_0 : decode cX9_court 0 = .ok (.aload_n 0, 1) := by decide +kernel
theorem dX9_court_1 : decode cX9_court 1 = .ok (.iload_n 1, 1) := by decide +kernel
theorem dX9_court_2 : decode cX9_court 2 = .ok (.invokevirtual 184, 3) := by decide +kernel
theorem dX9_court_5 : decode cX9_court 5 = .ok (.ifCond .eq 16, 3) := by decide +kernel
theorem dX9_court_8 : decode cX9_court 8 = .ok (.aload_n 0, 1) := by decide +kernel
theorem dX9_court_9 : decode cX9_court 9 = .ok (.iload_n 2, 1) := by decide +kernel
theorem dX9_court_10 : decode cX9_court 10 = .ok (.invokevirtual 184, 3) := by decide +kernel
theorem dX9_court_13 : decode cX9_court 13 = .ok (.ifCond .eq 8, 3) := by decide +kernel
theorem dX9_court_16 : decode cX9_court 16 = .ok (.iload_n 1, 1) := by decide +kernel
theorem dX9_court_17 : decode cX9_court 17 = .ok (.iload_n 2, 1) := by decide +kernel
theorem dX9_court_18 : decode cX9_court 18 = .ok (.if_icmp .ne 8, 3) := by decide +kernel
theorem dX9_court_21 : decode cX9_court 21 = .ok (.aload_n 0, 1) := by decide +kernel
theorem dX9_court_22 : decode cX9_court 22 = .ok (.invokevirtual 110, 3) := by decide +kernel
theorem dX9_court_25 : decode cX9_court 25 = .ok (.ireturn, 1) := by decide +kernel
theorem dX9_court_26 : decode cX9_court 26 = .ok (.iconst 0, 1) := by decide +kernel
theorem dX9_court_27 : decode cX9_court 27 = .ok (.istore_n 3, 1) := by decide +kernel
theorem dX9_court_28 : decode cX9_court 28 = .ok (.iconst 0, 1) := by decide +kernel
theorem dX9_court_29 : decode cX9_court 29 = .ok (.istore 4, 2) := by decide +kernel
theorem dX9_court_31 : decode cX9_court 31 = .ok (.iload 4, 2) := by decide +kernel
theorem dX9_court_33 : decode cX9_court 33 = .ok (.iconst 4, 1) := by decide +kernel
theorem dX9_court_34 : decode cX9_court 34 = .ok (.if_icmp .ge 98, 3) := by decide +kernel
theorem dX9_court_37 : decode cX9_court 37 = .ok (.iload 4, 2) := by decide +kernel
theorem dX9_court_39 : decode cX9_court 39 = .ok (.iconst 2, 1) := by decide +kernel
theorem dX9_court_40 : decode cX9_court 40 = .ok (.irem, 1) := by decide +kernel
theorem dX9_court_41 : decode cX9_court 41 = .ok (.istore 5, 2) := by decide +kernel
theorem dX9_court_43 : decode cX9_court 43 = .ok (.iload 4, 2) := by decide +kernel
theorem dX9_court_45 : decode cX9_court 45 = .ok (.iconst 2, 1) := by decide +kernel
theorem dX9_court_46 : decode cX9_court 46 = .ok (.idiv, 1) := by decide +kernel
theorem dX9_court_47 : decode cX9_court 47 = .ok (.istore 6, 2) := by decide +kernel
theorem dX9_court_49 : decode cX9_court 49 = .ok (.aload_n 0, 1) := by decide +kernel
theorem dX9_court_50 : decode cX9_court 50 = .ok (.iconst 0, 1) := by decide +kernel
theorem dX9_court_51 : decode cX9_court 51 = .ok (.iload_n 1, 1) := by decide +kernel
theorem dX9_court_52 : decode cX9_court 52 = .ok (.iload_n 2, 1) := by decide +kernel
theorem dX9_court_53 : decode cX9_court 53 = .ok (.iload 5, 2) := by decide +kernel
theorem dX9_court_55 : decode cX9_court 55 = .ok (.iload 6, 2) := by decide +kernel
theorem dX9_court_57 : decode cX9_court 57 = .ok (.invokevirtual 245, 3) := by decide +kernel
theorem dX9_court_60 : decode cX9_court 60 = .ok (.aload_n 0, 1) := by decide +kernel
theorem dX9_court_61 : decode cX9_court 61 = .ok (.iconst 0, 1) := by decide +kernel
theorem dX9_court_62 : decode cX9_court 62 = .ok (.iload_n 1, 1) := by decide +kernel
theorem dX9_court_63 : decode cX9_court 63 = .ok (.iload_n 2, 1) := by decide +kernel
theorem dX9_court_64 : decode cX9_court 64 = .ok (.iconst 1, 1) := by decide +kernel
theorem dX9_court_65 : decode cX9_court 65 = .ok (.iload 5, 2) := by decide +kernel
theorem dX9_court_67 : decode cX9_court 67 = .ok (.isub, 1) := by decide +kernel
theorem dX9_court_68 : decode cX9_court 68 = .ok (.iload 6, 2) := by decide +kernel
theorem dX9_court_70 : decode cX9_court 70 = .ok (.invokevirtual 245, 3) := by decide +kernel
theorem dX9_court_73 : decode cX9_court 73 = .ok (.if_icmp .lt 34, 3) := by decide +kernel
theorem dX9_court_76 : decode cX9_court 76 = .ok (.aload_n 0, 1) := by decide +kernel
theorem dX9_court_77 : decode cX9_court 77 = .ok (.iconst 1, 1) := by decide +kernel
theorem dX9_court_78 : decode cX9_court 78 = .ok (.iload_n 1, 1) := by decide +kernel
theorem dX9_court_79 : decode cX9_court 79 = .ok (.iload_n 2, 1) := by decide +kernel
theorem dX9_court_80 : decode cX9_court 80 = .ok (.iload 5, 2) := by decide +kernel
theorem dX9_court_82 : decode cX9_court 82 = .ok (.iload 6, 2) := by decide +kernel
theorem dX9_court_84 : decode cX9_court 84 = .ok (.invokevirtual 245, 3) := by decide +kernel
theorem dX9_court_87 : decode cX9_court 87 = .ok (.aload_n 0, 1) := by decide +kernel
theorem dX9_court_88 : decode cX9_court 88 = .ok (.iconst 1, 1) := by decide +kernel
theorem dX9_court_89 : decode cX9_court 89 = .ok (.iload_n 1, 1) := by decide +kernel
theorem dX9_court_90 : decode cX9_court 90 = .ok (.iload_n 2, 1) := by decide +kernel
theorem dX9_court_91 : decode cX9_court 91 = .ok (.iload 5, 2) := by decide +kernel
theorem dX9_court_93 : decode cX9_court 93 = .ok (.iconst 1, 1) := by decide +kernel
theorem dX9_court_94 : decode cX9_court 94 = .ok (.iload 6, 2) := by decide +kernel
theorem dX9_court_96 : decode cX9_court 96 = .ok (.isub, 1) := by decide +kernel
theorem dX9_court_97 : decode cX9_court 97 = .ok (.invokevirtual 245, 3) := by decide +kernel
theorem dX9_court_100 : decode cX9_court 100 = .ok (.if_icmp .lt 7, 3) := by decide +kernel
theorem dX9_court_103 : decode cX9_court 103 = .ok (.iconst 1, 1) := by decide +kernel
theorem dX9_court_104 : decode cX9_court 104 = .ok (.goto 4, 3) := by decide +kernel
theorem dX9_court_107 : decode cX9_court 107 = .ok (.iconst 0, 1) := by decide +kernel
theorem dX9_court_108 : decode cX9_court 108 = .ok (.istore 7, 2) := by decide +kernel
theorem dX9_court_110 : decode cX9_court 110 = .ok (.iload_n 3, 1) := by decide +kernel
theorem dX9_court_111 : decode cX9_court 111 = .ok (.iload 7, 2) := by decide +kernel
theorem dX9_court_113 : decode cX9_court 113 = .ok (.ifCond .eq 10, 3) := by decide +kernel
theorem dX9_court_116 : decode cX9_court 116 = .ok (.iconst 1, 1) := by decide +kernel
theorem dX9_court_117 : decode cX9_court 117 = .ok (.iload 4, 2) := by decide +kernel
theorem dX9_court_119 : decode cX9_court 119 = .ok (.ishl, 1) := by decide +kernel
theorem dX9_court_120 : decode cX9_court 120 = .ok (.goto 4, 3) := by decide +kernel
theorem dX9_court_123 : decode cX9_court 123 = .ok (.iconst 0, 1) := by decide +kernel
theorem dX9_court_124 : decode cX9_court 124 = .ok (.ior, 1) := by decide +kernel
theorem dX9_court_125 : decode cX9_court 125 = .ok (.istore_n 3, 1) := by decide +kernel
theorem dX9_court_126 : decode cX9_court 126 = .ok (.iinc 4 1, 3) := by decide +kernel
theorem dX9_court_129 : decode cX9_court 129 = .ok (.goto (-98), 3) := by decide +kernel
theorem dX9_court_132 : decode cX9_court 132 = .ok (.iload_n 3, 1) := by decide +kernel
theorem dX9_court_133 : decode cX9_court 133 = .ok (.ireturn, 1) := by decide +kernel
theorem dX9_lay_0 : decode cX9_lay 0 = .ok (.lload_n 1, 1) := by decide +kernel
theorem dX9_lay_1 : decode cX9_lay 1 = .ok (.lstore 5, 2) := by decide +kernel
theorem dX9_lay_3 : decode cX9_lay 3 = .ok (.lload_n 3, 1) := by decide +kernel
theorem dX9_lay_4 : decode cX9_lay 4 = .ok (.lstore 7, 2) := by decide +kernel
theorem dX9_lay_6 : decode cX9_lay 6 = .ok (.lload 7, 2) := by decide +kernel
theorem dX9_lay_8 : decode cX9_lay 8 = .ok (.lconst 0, 1) := by decide +kernel
theorem dX9_lay_9 : decode cX9_lay 9 = .ok (.lcmp, 1) := by decide +kernel
theorem dX9_lay_10 : decode cX9_lay 10 = .ok (.ifCond .eq 21, 3) := by decide +kernel
theorem dX9_lay_13 : decode cX9_lay 13 = .ok (.lload 5, 2) := by decide +kernel
theorem dX9_lay_15 : decode cX9_lay 15 = .ok (.lload 7, 2) := by decide +kernel
theorem dX9_lay_17 : decode cX9_lay 17 = .ok (.lrem, 1) := by decide +kernel
theorem dX9_lay_18 : decode cX9_lay 18 = .ok (.lstore 9, 2) := by decide +kernel
theorem dX9_lay_20 : decode cX9_lay 20 = .ok (.lload 7, 2) := by decide +kernel
theorem dX9_lay_22 : decode cX9_lay 22 = .ok (.lstore 5, 2) := by decide +kernel
theorem dX9_lay_24 : decode cX9_lay 24 = .ok (.lload 9, 2) := by decide +kernel
theorem dX9_lay_26 : decode cX9_lay 26 = .ok (.lstore 7, 2) := by decide +kernel
theorem dX9_lay_28 : decode cX9_lay 28 = .ok (.goto (-22), 3) := by decide +kernel
theorem dX9_lay_31 : decode cX9_lay 31 = .ok (.aload_n 0, 1) := by decide +kernel
theorem dX9_lay_32 : decode cX9_lay 32 = .ok (.lload_n 1, 1) := by decide +kernel
theorem dX9_lay_33 : decode cX9_lay 33 = .ok (.lload 5, 2) := by decide +kernel
theorem dX9_lay_35 : decode cX9_lay 35 = .ok (.ldiv, 1) := by decide +kernel
theorem dX9_lay_36 : decode cX9_lay 36 = .ok (.putfield 249, 3) := by decide +kernel
theorem dX9_lay_39 : decode cX9_lay 39 = .ok (.aload_n 0, 1) := by decide +kernel
theorem dX9_lay_40 : decode cX9_lay 40 = .ok (.lload_n 3, 1) := by decide +kernel
theorem dX9_lay_41 : decode cX9_lay 41 = .ok (.lload 5, 2) := by decide +kernel
theorem dX9_lay_43 : decode cX9_lay 43 = .ok (.ldiv, 1) := by decide +kernel
theorem dX9_lay_44 : decode cX9_lay 44 = .ok (.putfield 80, 3) := by decide +kernel
theorem dX9_lay_47 : decode cX9_lay 47 = .ok (.return_, 1) := by decide +kernel
theorem dX9_rain_0 : decode cX9_rain 0 = .ok (.aload_n 0, 1) := by decide +kernel
theorem dX9_rain_1 : decode cX9_rain 1 = .ok (.iload_n 1, 1) := by decide +kernel
theorem dX9_rain_2 : decode cX9_rain 2 = .ok (.invokevirtual 184, 3) := by decide +kernel
theorem dX9_rain_5 : decode cX9_rain 5 = .ok (.ifCond .eq 13, 3) := by decide +kernel
theorem dX9_rain_8 : decode cX9_rain 8 = .ok (.iload_n 2, 1) := by decide +kernel
theorem dX9_rain_9 : decode cX9_rain 9 = .ok (.iconst 0, 1) := by decide +kernel
theorem dX9_rain_10 : decode cX9_rain 10 = .ok (.bipush 10, 2) := by decide +kernel
theorem dX9_rain_12 : decode cX9_rain 12 = .ok (.invokestatic 15, 3) := by decide +kernel
theorem dX9_rain_15 : decode cX9_rain 15 = .ok (.ifCond .ne 8, 3) := by decide +kernel
theorem dX9_rain_18 : decode cX9_rain 18 = .ok (.aload_n 0, 1) := by decide +kernel
theorem dX9_rain_19 : decode cX9_rain 19 = .ok (.invokevirtual 110, 3) := by decide +kernel
theorem dX9_rain_22 : decode cX9_rain 22 = .ok (.ireturn, 1) := by decide +kernel
theorem dX9_rain_23 : decode cX9_rain 23 = .ok (.aload_n 0, 1) := by decide +kernel
theorem dX9_rain_24 : decode cX9_rain 24 = .ok (.aload_n 0, 1) := by decide +kernel
theorem dX9_rain_25 : decode cX9_rain 25 = .ok (.getfield 44, 3) := by decide +kernel
theorem dX9_rain_28 : decode cX9_rain 28 = .ok (.iload_n 1, 1) := by decide +kernel
theorem dX9_rain_29 : decode cX9_rain 29 = .ok (.iaload, 1) := by decide +kernel
theorem dX9_rain_30 : decode cX9_rain 30 = .ok (.bipush 10, 2) := by decide +kernel
theorem dX9_rain_32 : decode cX9_rain 32 = .ok (.iload_n 2, 1) := by decide +kernel
theorem dX9_rain_33 : decode cX9_rain 33 = .ok (.isub, 1) := by decide +kernel
theorem dX9_rain_34 : decode cX9_rain 34 = .ok (.imul, 1) := by decide +kernel
theorem dX9_rain_35 : decode cX9_rain 35 = .ok (.i2l, 1) := by decide +kernel
theorem dX9_rain_36 : decode cX9_rain 36 = .ok (.ldc2_w 252, 3) := by decide +kernel
theorem dX9_rain_39 : decode cX9_rain 39 = .ok (.invokevirtual 254, 3) := by decide +kernel
theorem dX9_rain_42 : decode cX9_rain 42 = .ok (.iconst 1, 1) := by decide +kernel
theorem dX9_rain_43 : decode cX9_rain 43 = .ok (.ireturn, 1) := by decide +kernel
theorem dX9_years_0 : decode cX9_years 0 = .ok (.iload_n 1, 1) := by decide +kernel
theorem dX9_years_1 : decode cX9_years 1 = .ok (.iconst 0, 1) := by decide +kernel
theorem dX9_years_2 : decode cX9_years 2 = .ok (.ldc_w 258, 3) := by decide +kernel
theorem dX9_years_5 : decode cX9_years 5 = .ok (.invokestatic 15, 3) := by decide +kernel
theorem dX9_years_8 : decode cX9_years 8 = .ok (.ifCond .eq 13, 3) := by decide +kernel
theorem dX9_years_11 : decode cX9_years 11 = .ok (.iload_n 2, 1) := by decide +kernel
theorem dX9_years_12 : decode cX9_years 12 = .ok (.iconst 0, 1) := by decide +kernel
theorem dX9_years_13 : decode cX9_years 13 = .ok (.bipush 60, 2) := by decide +kernel
theorem dX9_years_15 : decode cX9_years 15 = .ok (.invokestatic 15, 3) := by decide +kernel
theorem dX9_years_18 : decode cX9_years 18 = .ok (.ifCond .ne 8, 3) := by decide +kernel
theorem dX9_years_21 : decode cX9_years 21 = .ok (.aload_n 0, 1) := by decide +kernel
theorem dX9_years_22 : decode cX9_years 22 = .ok (.invokevirtual 110, 3) := by decide +kernel
theorem dX9_years_25 : decode cX9_years 25 = .ok (.ireturn, 1) := by decide +kernel
theorem dX9_years_26 : decode cX9_years 26 = .ok (.iconst 0, 1) := by decide +kernel
theorem dX9_years_27 : decode cX9_years 27 = .ok (.istore_n 3, 1) := by decide +kernel
theorem dX9_years_28 : decode cX9_years 28 = .ok (.iload_n 3, 1) := by decide +kernel
theorem dX9_years_29 : decode cX9_years 29 = .ok (.bipush 6, 2) := by decide +kernel
theorem dX9_years_31 : decode cX9_years 31 = .ok (.if_icmp .ge 21, 3) := by decide +kernel
theorem dX9_years_34 : decode cX9_years 34 = .ok (.aload_n 0, 1) := by decide +kernel
theorem dX9_years_35 : decode cX9_years 35 = .ok (.getfield 84, 3) := by decide +kernel
theorem dX9_years_38 : decode cX9_years 38 = .ok (.iload_n 3, 1) := by decide +kernel
theorem dX9_years_39 : decode cX9_years 39 = .ok (.aload_n 0, 1) := by decide +kernel
theorem dX9_years_40 : decode cX9_years 40 = .ok (.getfield 47, 3) := by decide +kernel
theorem dX9_years_43 : decode cX9_years 43 = .ok (.iload_n 3, 1) := by decide +kernel
theorem dX9_years_44 : decode cX9_years 44 = .ok (.iaload, 1) := by decide +kernel
theorem dX9_years_45 : decode cX9_years 45 = .ok (.iastore, 1) := by decide +kernel
theorem dX9_years_46 : decode cX9_years 46 = .ok (.iinc 3 1, 3) := by decide +kernel
theorem dX9_years_49 : decode cX9_years 49 = .ok (.goto (-21), 3) := by decide +kernel
theorem dX9_years_52 : decode cX9_years 52 = .ok (.iload_n 1, 1) := by decide +kernel
theorem dX9_years_53 : decode cX9_years 53 = .ok (.i2l, 1) := by decide +kernel
theorem dX9_years_54 : decode cX9_years 54 = .ok (.lstore_n 3, 1) := by decide +kernel
theorem dX9_years_55 : decode cX9_years 55 = .ok (.iconst 0, 1) := by decide +kernel
theorem dX9_years_56 : decode cX9_years 56 = .ok (.istore 5, 2) := by decide +kernel
theorem dX9_years_58 : decode cX9_years 58 = .ok (.iconst 0, 1) := by decide +kernel
theorem dX9_years_59 : decode cX9_years 59 = .ok (.istore 6, 2) := by decide +kernel
theorem dX9_years_61 : decode cX9_years 61 = .ok (.iload 6, 2) := by decide +kernel
theorem dX9_years_63 : decode cX9_years 63 = .ok (.iload_n 2, 1) := by decide +kernel
theorem dX9_years_64 : decode cX9_years 64 = .ok (.if_icmp .ge 93, 3) := by decide +kernel
theorem dX9_years_67 : decode cX9_years 67 = .ok (.lload_n 3, 1) := by decide +kernel
theorem dX9_years_68 : decode cX9_years 68 = .ok (.ldc2_w 259, 3) := by decide +kernel
theorem dX9_years_71 : decode cX9_years 71 = .ok (.lmul, 1) := by decide +kernel
theorem dX9_years_72 : decode cX9_years 72 = .ok (.ldc2_w 261, 3) := by decide +kernel
theorem dX9_years_75 : decode cX9_years 75 = .ok (.ladd, 1) := by decide +kernel
theorem dX9_years_76 : decode cX9_years 76 = .ok (.ldc2_w 263, 3) := by decide +kernel
theorem dX9_years_79 : decode cX9_years 79 = .ok (.lrem, 1) := by decide +kernel
theorem dX9_years_80 : decode cX9_years 80 = .ok (.lstore_n 3, 1) := by decide +kernel
theorem dX9_years_81 : decode cX9_years 81 = .ok (.lload_n 3, 1) := by decide +kernel
theorem dX9_years_82 : decode cX9_years 82 = .ok (.ldc2_w 265, 3) := by decide +kernel
theorem dX9_years_85 : decode cX9_years 85 = .ok (.ldiv, 1) := by decide +kernel
theorem dX9_years_86 : decode cX9_years 86 = .ok (.ldc2_w 267, 3) := by decide +kernel
theorem dX9_years_89 : decode cX9_years 89 = .ok (.lrem, 1) := by decide +kernel
theorem dX9_years_90 : decode cX9_years 90 = .ok (.l2i, 1) := by decide +kernel
theorem dX9_years_91 : decode cX9_years 91 = .ok (.istore 7, 2) := by decide +kernel
theorem dX9_years_93 : decode cX9_years 93 = .ok (.lload_n 3, 1) := by decide +kernel
theorem dX9_years_94 : decode cX9_years 94 = .ok (.ldc2_w 269, 3) := by decide +kernel
theorem dX9_years_97 : decode cX9_years 97 = .ok (.ldiv, 1) := by decide +kernel
theorem dX9_years_98 : decode cX9_years 98 = .ok (.ldc2_w 271, 3) := by decide +kernel
theorem dX9_years_101 : decode cX9_years 101 = .ok (.lrem, 1) := by decide +kernel
theorem dX9_years_102 : decode cX9_years 102 = .ok (.l2i, 1) := by decide +kernel
theorem dX9_years_103 : decode cX9_years 103 = .ok (.istore 8, 2) := by decide +kernel
theorem dX9_years_105 : decode cX9_years 105 = .ok (.iload 7, 2) := by decide +kernel
theorem dX9_years_107 : decode cX9_years 107 = .ok (.aload_n 0, 1) := by decide +kernel
theorem dX9_years_108 : decode cX9_years 108 = .ok (.getfield 96, 3) := by decide +kernel
theorem dX9_years_111 : decode cX9_years 111 = .ok (.if_icmp .ge 40, 3) := by decide +kernel
theorem dX9_years_114 : decode cX9_years 114 = .ok (.aload_n 0, 1) := by decide +kernel
theorem dX9_years_115 : decode cX9_years 115 = .ok (.getfield 47, 3) := by decide +kernel
theorem dX9_years_118 : decode cX9_years 118 = .ok (.iload 7, 2) := by decide +kernel
theorem dX9_years_120 : decode cX9_years 120 = .ok (.bipush 9, 2) := by decide +kernel
theorem dX9_years_122 : decode cX9_years 122 = .ok (.aload_n 0, 1) := by decide +kernel
theorem dX9_years_123 : decode cX9_years 123 = .ok (.getfield 47, 3) := by decide +kernel
theorem dX9_years_126 : decode cX9_years 126 = .ok (.iload 7, 2) := by decide +kernel
theorem dX9_years_128 : decode cX9_years 128 = .ok (.iaload, 1) := by decide +kernel
theorem dX9_years_129 : decode cX9_years 129 = .ok (.iconst 1, 1) := by decide +kernel
theorem dX9_years_130 : decode cX9_years 130 = .ok (.iadd, 1) := by decide +kernel
theorem dX9_years_131 : decode cX9_years 131 = .ok (.invokestatic 159, 3) := by decide +kernel
theorem dX9_years_134 : decode cX9_years 134 = .ok (.iastore, 1) := by decide +kernel
theorem dX9_years_135 : decode cX9_years 135 = .ok (.iload 5, 2) := by decide +kernel
theorem dX9_years_137 : decode cX9_years 137 = .ok (.aload_n 0, 1) := by decide +kernel
theorem dX9_years_138 : decode cX9_years 138 = .ok (.iload 7, 2) := by decide +kernel
theorem dX9_years_140 : decode cX9_years 140 = .ok (.iload 8, 2) := by decide +kernel
theorem dX9_years_142 : decode cX9_years 142 = .ok (.invokevirtual 193, 3) := by decide +kernel
theorem dX9_years_145 : decode cX9_years 145 = .ok (.invokestatic 7, 3) := by decide +kernel
theorem dX9_years_148 : decode cX9_years 148 = .ok (.iadd, 1) := by decide +kernel
theorem dX9_years_149 : decode cX9_years 149 = .ok (.istore 5, 2) := by decide +kernel
theorem dX9_years_151 : decode cX9_years 151 = .ok (.iinc 6 1, 3) := by decide +kernel
theorem dX9_years_154 : decode cX9_years 154 = .ok (.goto (-93), 3) := by decide +kernel
theorem dX9_years_157 : decode cX9_years 157 = .ok (.iconst 0, 1) := by decide +kernel
theorem dX9_years_158 : decode cX9_years 158 = .ok (.istore 6, 2) := by decide +kernel
theorem dX9_years_160 : decode cX9_years 160 = .ok (.iload 6, 2) := by decide +kernel
theorem dX9_years_162 : decode cX9_years 162 = .ok (.bipush 6, 2) := by decide +kernel
theorem dX9_years_164 : decode cX9_years 164 = .ok (.if_icmp .ge 23, 3) := by decide +kernel
theorem dX9_years_167 : decode cX9_years 167 = .ok (.aload_n 0, 1) := by decide +kernel
theorem dX9_years_168 : decode cX9_years 168 = .ok (.getfield 47, 3) := by decide +kernel
theorem dX9_years_171 : decode cX9_years 171 = .ok (.iload 6, 2) := by decide +kernel
theorem dX9_years_173 : decode cX9_years 173 = .ok (.aload_n 0, 1) := by decide +kernel
theorem dX9_years_174 : decode cX9_years 174 = .ok (.getfield 84, 3) := by decide +kernel
theorem dX9_years_177 : decode cX9_years 177 = .ok (.iload 6, 2) := by decide +kernel
theorem dX9_years_179 : decode cX9_years 179 = .ok (.iaload, 1) := by decide +kernel
theorem dX9_years_180 : decode cX9_years 180 = .ok (.iastore, 1) := by decide +kernel
theorem dX9_years_181 : decode cX9_years 181 = .ok (.iinc 6 1, 3) := by decide +kernel
theorem dX9_years_184 : decode cX9_years 184 = .ok (.goto (-24), 3) := by decide +kernel
theorem dX9_years_187 : decode cX9_years 187 = .ok (.iload 5, 2) := by decide +kernel
theorem dX9_years_189 : decode cX9_years 189 = .ok (.ireturn, 1) := by decide +kernel
theorem dX9_part_0 : decode cX9_part 0 = .ok (.iload_n 1, 1) := by decide +kernel
theorem dX9_part_1 : decode cX9_part 1 = .ok (.ifCond .ne 10, 3) := by decide +kernel
theorem dX9_part_4 : decode cX9_part 4 = .ok (.aload_n 0, 1) := by decide +kernel
theorem dX9_part_5 : decode cX9_part 5 = .ok (.getfield 249, 3) := by decide +kernel
theorem dX9_part_8 : decode cX9_part 8 = .ok (.goto 20, 3) := by decide +kernel
theorem dX9_part_11 : decode cX9_part 11 = .ok (.iload_n 1, 1) := by decide +kernel
theorem dX9_part_12 : decode cX9_part 12 = .ok (.iconst 1, 1) := by decide +kernel
theorem dX9_part_13 : decode cX9_part 13 = .ok (.if_icmp .ne 10, 3) := by decide +kernel
theorem dX9_part_16 : decode cX9_part 16 = .ok (.aload_n 0, 1) := by decide +kernel
theorem dX9_part_17 : decode cX9_part 17 = .ok (.getfield 80, 3) := by decide +kernel
theorem dX9_part_20 : decode cX9_part 20 = .ok (.goto 8, 3) := by decide +kernel
theorem dX9_part_23 : decode cX9_part 23 = .ok (.aload_n 0, 1) := by decide +kernel
theorem dX9_part_24 : decode cX9_part 24 = .ok (.invokevirtual 110, 3) := by decide +kernel
theorem dX9_part_27 : decode cX9_part 27 = .ok (.i2l, 1) := by decide +kernel
theorem dX9_part_28 : decode cX9_part 28 = .ok (.lreturn, 1) := by decide +kernel
theorem dX9_image_0 : decode cX9_image 0 = .ok (.iload_n 1, 1) := by decide +kernel
theorem dX9_image_1 : decode cX9_image 1 = .ok (.iconst 0, 1) := by decide +kernel
theorem dX9_image_2 : decode cX9_image 2 = .ok (.iconst 1, 1) := by decide +kernel
theorem dX9_image_3 : decode cX9_image 3 = .ok (.invokestatic 15, 3) := by decide +kernel
theorem dX9_image_6 : decode cX9_image 6 = .ok (.ifCond .ne 8, 3) := by decide +kernel
theorem dX9_image_9 : decode cX9_image 9 = .ok (.aload_n 0, 1) := by decide +kernel
theorem dX9_image_10 : decode cX9_image 10 = .ok (.invokevirtual 110, 3) := by decide +kernel
theorem dX9_image_13 : decode cX9_image 13 = .ok (.ireturn, 1) := by decide +kernel
theorem dX9_image_14 : decode cX9_image 14 = .ok (.sipush 210, 3) := by decide +kernel
theorem dX9_image_17 : decode cX9_image 17 = .ok (.iload_n 1, 1) := by decide +kernel
theorem dX9_image_18 : decode cX9_image 18 = .ok (.imul, 1) := by decide +kernel
theorem dX9_image_19 : decode cX9_image 19 = .ok (.istore_n 2, 1) := by decide +kernel
theorem dX9_image_20 : decode cX9_image 20 = .ok (.aload_n 0, 1) := by decide +kernel
theorem dX9_image_21 : decode cX9_image 21 = .ok (.getfield 90, 3) := by decide +kernel
theorem dX9_image_24 : decode cX9_image 24 = .ok (.iload_n 1, 1) := by decide +kernel
theorem dX9_image_25 : decode cX9_image 25 = .ok (.iconst 1, 1) := by decide +kernel
theorem dX9_image_26 : decode cX9_image 26 = .ok (.iastore, 1) := by decide +kernel
theorem dX9_image_27 : decode cX9_image 27 = .ok (.aload_n 0, 1) := by decide +kernel
theorem dX9_image_28 : decode cX9_image 28 = .ok (.getfield 87, 3) := by decide +kernel
theorem dX9_image_31 : decode cX9_image 31 = .ok (.iload_n 2, 1) := by decide +kernel
theorem dX9_image_32 : decode cX9_image 32 = .ok (.aload_n 0, 1) := by decide +kernel
theorem dX9_image_33 : decode cX9_image 33 = .ok (.getfield 100, 3) := by decide +kernel
theorem dX9_image_36 : decode cX9_image 36 = .ok (.iastore, 1) := by decide +kernel
theorem dX9_image_37 : decode cX9_image 37 = .ok (.aload_n 0, 1) := by decide +kernel
theorem dX9_image_38 : decode cX9_image 38 = .ok (.getfield 87, 3) := by decide +kernel
theorem dX9_image_41 : decode cX9_image 41 = .ok (.iload_n 2, 1) := by decide +kernel
theorem dX9_image_42 : decode cX9_image 42 = .ok (.iconst 1, 1) := by decide +kernel
theorem dX9_image_43 : decode cX9_image 43 = .ok (.iadd, 1) := by decide +kernel
theorem dX9_image_44 : decode cX9_image 44 = .ok (.aload_n 0, 1) := by decide +kernel
theorem dX9_image_45 : decode cX9_image 45 = .ok (.getfield 103, 3) := by decide +kernel
theorem dX9_image_48 : decode cX9_image 48 = .ok (.iastore, 1) := by decide +kernel
theorem dX9_image_49 : decode cX9_image 49 = .ok (.aload_n 0, 1) := by decide +kernel
theorem dX9_image_50 : decode cX9_image 50 = .ok (.aload_n 0, 1) := by decide +kernel
theorem dX9_image_51 : decode cX9_image 51 = .ok (.getfield 87, 3) := by decide +kernel
theorem dX9_image_54 : decode cX9_image 54 = .ok (.iload_n 2, 1) := by decide +kernel
theorem dX9_image_55 : decode cX9_image 55 = .ok (.iconst 2, 1) := by decide +kernel
theorem dX9_image_56 : decode cX9_image 56 = .ok (.iadd, 1) := by decide +kernel
theorem dX9_image_57 : decode cX9_image 57 = .ok (.invokevirtual 180, 3) := by decide +kernel
theorem dX9_image_60 : decode cX9_image 60 = .ok (.iconst 0, 1) := by decide +kernel
theorem dX9_image_61 : decode cX9_image 61 = .ok (.istore_n 3, 1) := by decide +kernel
theorem dX9_image_62 : decode cX9_image 62 = .ok (.iload_n 3, 1) := by decide +kernel
theorem dX9_image_63 : decode cX9_image 63 = .ok (.bipush 6, 2) := by decide +kernel
theorem dX9_image_65 : decode cX9_image 65 = .ok (.if_icmp .ge 77, 3) := by decide +kernel
theorem dX9_image_68 : decode cX9_image 68 = .ok (.aload_n 0, 1) := by decide +kernel
theorem dX9_image_69 : decode cX9_image 69 = .ok (.getfield 87, 3) := by decide +kernel
theorem dX9_image_72 : decode cX9_image 72 = .ok (.iload_n 2, 1) := by decide +kernel
theorem dX9_image_73 : decode cX9_image 73 = .ok (.bipush 27, 2) := by decide +kernel
theorem dX9_image_75 : decode cX9_image 75 = .ok (.iadd, 1) := by decide +kernel
theorem dX9_image_76 : decode cX9_image 76 = .ok (.iload_n 3, 1) := by decide +kernel
theorem dX9_image_77 : decode cX9_image 77 = .ok (.iadd, 1) := by decide +kernel
theorem dX9_image_78 : decode cX9_image 78 = .ok (.aload_n 0, 1) := by decide +kernel
theorem dX9_image_79 : decode cX9_image 79 = .ok (.getfield 50, 3) := by decide +kernel
theorem dX9_image_82 : decode cX9_image 82 = .ok (.iload_n 3, 1) := by decide +kernel
theorem dX9_image_83 : decode cX9_image 83 = .ok (.iaload, 1) := by decide +kernel
theorem dX9_image_84 : decode cX9_image 84 = .ok (.iastore, 1) := by decide +kernel
theorem dX9_image_85 : decode cX9_image 85 = .ok (.aload_n 0, 1) := by decide +kernel
theorem dX9_image_86 : decode cX9_image 86 = .ok (.getfield 87, 3) := by decide +kernel
theorem dX9_image_89 : decode cX9_image 89 = .ok (.iload_n 2, 1) := by decide +kernel
theorem dX9_image_90 : decode cX9_image 90 = .ok (.bipush 33, 2) := by decide +kernel
theorem dX9_image_92 : decode cX9_image 92 = .ok (.iadd, 1) := by decide +kernel
theorem dX9_image_93 : decode cX9_image 93 = .ok (.iload_n 3, 1) := by decide +kernel
theorem dX9_image_94 : decode cX9_image 94 = .ok (.iadd, 1) := by decide +kernel
theorem dX9_image_95 : decode cX9_image 95 = .ok (.aload_n 0, 1) := by decide +kernel
theorem dX9_image_96 : decode cX9_image 96 = .ok (.getfield 53, 3) := by decide +kernel
theorem dX9_image_99 : decode cX9_image 99 = .ok (.iload_n 3, 1) := by decide +kernel
theorem dX9_image_100 : decode cX9_image 100 = .ok (.iaload, 1) := by decide +kernel
theorem dX9_image_101 : decode cX9_image 101 = .ok (.iastore, 1) := by decide +kernel
theorem dX9_image_102 : decode cX9_image 102 = .ok (.aload_n 0, 1) := by decide +kernel
theorem dX9_image_103 : decode cX9_image 103 = .ok (.getfield 87, 3) := by decide +kernel
theorem dX9_image_106 : decode cX9_image 106 = .ok (.iload_n 2, 1) := by decide +kernel
theorem dX9_image_107 : decode cX9_image 107 = .ok (.bipush 39, 2) := by decide +kernel
theorem dX9_image_109 : decode cX9_image 109 = .ok (.iadd, 1) := by decide +kernel
theorem dX9_image_110 : decode cX9_image 110 = .ok (.iload_n 3, 1) := by decide +kernel
theorem dX9_image_111 : decode cX9_image 111 = .ok (.iadd, 1) := by decide +kernel
theorem dX9_image_112 : decode cX9_image 112 = .ok (.aload_n 0, 1) := by decide +kernel
theorem dX9_image_113 : decode cX9_image 113 = .ok (.getfield 56, 3) := by decide +kernel
theorem dX9_image_116 : decode cX9_image 116 = .ok (.iload_n 3, 1) := by decide +kernel
theorem dX9_image_117 : decode cX9_image 117 = .ok (.iaload, 1) := by decide +kernel
theorem dX9_image_118 : decode cX9_image 118 = .ok (.iastore, 1) := by decide +kernel
theorem dX9_image_119 : decode cX9_image 119 = .ok (.aload_n 0, 1) := by decide +kernel
theorem dX9_image_120 : decode cX9_image 120 = .ok (.getfield 87, 3) := by decide +kernel
theorem dX9_image_123 : decode cX9_image 123 = .ok (.iload_n 2, 1) := by decide +kernel
theorem dX9_image_124 : decode cX9_image 124 = .ok (.bipush 45, 2) := by decide +kernel
theorem dX9_image_126 : decode cX9_image 126 = .ok (.iadd, 1) := by decide +kernel
theorem dX9_image_127 : decode cX9_image 127 = .ok (.iload_n 3, 1) := by decide +kernel
theorem dX9_image_128 : decode cX9_image 128 = .ok (.iadd, 1) := by decide +kernel
theorem dX9_image_129 : decode cX9_image 129 = .ok (.aload_n 0, 1) := by decide +kernel
theorem dX9_image_130 : decode cX9_image 130 = .ok (.getfield 59, 3) := by decide +kernel
theorem dX9_image_133 : decode cX9_image 133 = .ok (.iload_n 3, 1) := by decide +kernel
theorem dX9_image_134 : decode cX9_image 134 = .ok (.iaload, 1) := by decide +kernel
theorem dX9_image_135 : decode cX9_image 135 = .ok (.iastore, 1) := by decide +kernel
theorem dX9_image_136 : decode cX9_image 136 = .ok (.iinc 3 1, 3) := by decide +kernel
theorem dX9_image_139 : decode cX9_image 139 = .ok (.goto (-77), 3) := by decide +kernel
theorem dX9_image_142 : decode cX9_image 142 = .ok (.iconst 0, 1) := by decide +kernel
theorem dX9_image_143 : decode cX9_image 143 = .ok (.istore_n 3, 1) := by decide +kernel
theorem dX9_image_144 : decode cX9_image 144 = .ok (.iload_n 3, 1) := by decide +kernel
theorem dX9_image_145 : decode cX9_image 145 = .ok (.sipush 150, 3) := by decide +kernel
theorem dX9_image_148 : decode cX9_image 148 = .ok (.if_icmp .ge 26, 3) := by decide +kernel
theorem dX9_image_151 : decode cX9_image 151 = .ok (.aload_n 0, 1) := by decide +kernel
theorem dX9_image_152 : decode cX9_image 152 = .ok (.getfield 87, 3) := by decide +kernel
theorem dX9_image_155 : decode cX9_image 155 = .ok (.iload_n 2, 1) := by decide +kernel
theorem dX9_image_156 : decode cX9_image 156 = .ok (.bipush 51, 2) := by decide +kernel
theorem dX9_image_158 : decode cX9_image 158 = .ok (.iadd, 1) := by decide +kernel
theorem dX9_image_159 : decode cX9_image 159 = .ok (.iload_n 3, 1) := by decide +kernel
theorem dX9_image_160 : decode cX9_image 160 = .ok (.iadd, 1) := by decide +kernel
theorem dX9_image_161 : decode cX9_image 161 = .ok (.aload_n 0, 1) := by decide +kernel
theorem dX9_image_162 : decode cX9_image 162 = .ok (.getfield 68, 3) := by decide +kernel
theorem dX9_image_165 : decode cX9_image 165 = .ok (.iload_n 3, 1) := by decide +kernel
theorem dX9_image_166 : decode cX9_image 166 = .ok (.iaload, 1) := by decide +kernel
theorem dX9_image_167 : decode cX9_image 167 = .ok (.iastore, 1) := by decide +kernel
theorem dX9_image_168 : decode cX9_image 168 = .ok (.iinc 3 1, 3) := by decide +kernel
theorem dX9_image_171 : decode cX9_image 171 = .ok (.goto (-27), 3) := by decide +kernel
theorem dX9_image_174 : decode cX9_image 174 = .ok (.iconst 1, 1) := by decide +kernel
theorem dX9_image_175 : decode cX9_image 175 = .ok (.ireturn, 1) := by decide +kernel
theorem dX9_from_0 : decode cX9_from 0 = .ok (.iload_n 1, 1) := by decide +kernel
theorem dX9_from_1 : decode cX9_from 1 = .ok (.iconst 0, 1) := by decide +kernel
theorem dX9_from_2 : decode cX9_from 2 = .ok (.iconst 1, 1) := by decide +kernel
theorem dX9_from_3 : decode cX9_from 3 = .ok (.invokestatic 15, 3) := by decide +kernel
theorem dX9_from_6 : decode cX9_from 6 = .ok (.ifCond .ne 8, 3) := by decide +kernel
theorem dX9_from_9 : decode cX9_from 9 = .ok (.aload_n 0, 1) := by decide +kernel
theorem dX9_from_10 : decode cX9_from 10 = .ok (.invokevirtual 110, 3) := by decide +kernel
theorem dX9_from_13 : decode cX9_from 13 = .ok (.ireturn, 1) := by decide +kernel
theorem dX9_from_14 : decode cX9_from 14 = .ok (.aload_n 0, 1) := by decide +kernel
theorem dX9_from_15 : decode cX9_from 15 = .ok (.getfield 90, 3) := by decide +kernel
theorem dX9_from_18 : decode cX9_from 18 = .ok (.iload_n 1, 1) := by decide +kernel
theorem dX9_from_19 : decode cX9_from 19 = .ok (.iaload, 1) := by decide +kernel
theorem dX9_from_20 : decode cX9_from 20 = .ok (.ifCond .ne 8, 3) := by decide +kernel
theorem dX9_from_23 : decode cX9_from 23 = .ok (.aload_n 0, 1) := by decide +kernel
theorem dX9_from_24 : decode cX9_from 24 = .ok (.invokevirtual 190, 3) := by decide +kernel
theorem dX9_from_27 : decode cX9_from 27 = .ok (.ireturn, 1) := by decide +kernel
theorem dX9_from_28 : decode cX9_from 28 = .ok (.sipush 210, 3) := by decide +kernel
theorem dX9_from_31 : decode cX9_from 31 = .ok (.iload_n 1, 1) := by decide +kernel
theorem dX9_from_32 : decode cX9_from 32 = .ok (.imul, 1) := by decide +kernel
theorem dX9_from_33 : decode cX9_from 33 = .ok (.istore_n 2, 1) := by decide +kernel
theorem dX9_from_34 : decode cX9_from 34 = .ok (.aload_n 0, 1) := by decide +kernel
theorem dX9_from_35 : decode cX9_from 35 = .ok (.aload_n 0, 1) := by decide +kernel
theorem dX9_from_36 : decode cX9_from 36 = .ok (.getfield 87, 3) := by decide +kernel
theorem dX9_from_39 : decode cX9_from 39 = .ok (.iload_n 2, 1) := by decide +kernel
theorem dX9_from_40 : decode cX9_from 40 = .ok (.iaload, 1) := by decide +kernel
theorem dX9_from_41 : decode cX9_from 41 = .ok (.putfield 100, 3) := by decide +kernel
theorem dX9_from_44 : decode cX9_from 44 = .ok (.aload_n 0, 1) := by decide +kernel
theorem dX9_from_45 : decode cX9_from 45 = .ok (.aload_n 0, 1) := by decide +kernel
theorem dX9_from_46 : decode cX9_from 46 = .ok (.getfield 87, 3) := by decide +kernel
theorem dX9_from_49 : decode cX9_from 49 = .ok (.iload_n 2, 1) := by decide +kernel
theorem dX9_from_50 : decode cX9_from 50 = .ok (.iconst 1, 1) := by decide +kernel
theorem dX9_from_51 : decode cX9_from 51 = .ok (.iadd, 1) := by decide +kernel
theorem dX9_from_52 : decode cX9_from 52 = .ok (.iaload, 1) := by decide +kernel
theorem dX9_from_53 : decode cX9_from 53 = .ok (.putfield 103, 3) := by decide +kernel
theorem dX9_from_56 : decode cX9_from 56 = .ok (.aload_n 0, 1) := by decide +kernel
theorem dX9_from_57 : decode cX9_from 57 = .ok (.aload_n 0, 1) := by decide +kernel
theorem dX9_from_58 : decode cX9_from 58 = .ok (.getfield 87, 3) := by decide +kernel
theorem dX9_from_61 : decode cX9_from 61 = .ok (.iload_n 2, 1) := by decide +kernel
theorem dX9_from_62 : decode cX9_from 62 = .ok (.iconst 2, 1) := by decide +kernel
theorem dX9_from_63 : decode cX9_from 63 = .ok (.iadd, 1) := by decide +kernel
theorem dX9_from_64 : decode cX9_from 64 = .ok (.invokevirtual 202, 3) := by decide +kernel
theorem dX9_from_67 : decode cX9_from 67 = .ok (.iconst 0, 1) := by decide +kernel
theorem dX9_from_68 : decode cX9_from 68 = .ok (.istore_n 3, 1) := by decide +kernel
theorem dX9_from_69 : decode cX9_from 69 = .ok (.iload_n 3, 1) := by decide +kernel
theorem dX9_from_70 : decode cX9_from 70 = .ok (.bipush 6, 2) := by decide +kernel
theorem dX9_from_72 : decode cX9_from 72 = .ok (.if_icmp .ge 77, 3) := by decide +kernel
theorem dX9_from_75 : decode cX9_from 75 = .ok (.aload_n 0, 1) := by decide +kernel
theorem dX9_from_76 : decode cX9_from 76 = .ok (.getfield 50, 3) := by decide +kernel
theorem dX9_from_79 : decode cX9_from 79 = .ok (.iload_n 3, 1) := by decide +kernel
theorem dX9_from_80 : decode cX9_from 80 = .ok (.aload_n 0, 1) := by decide +kernel
theorem dX9_from_81 : decode cX9_from 81 = .ok (.getfield 87, 3) := by decide +kernel
theorem dX9_from_84 : decode cX9_from 84 = .ok (.iload_n 2, 1) := by decide +kernel
theorem dX9_from_85 : decode cX9_from 85 = .ok (.bipush 27, 2) := by decide +kernel
theorem dX9_from_87 : decode cX9_from 87 = .ok (.iadd, 1) := by decide +kernel
theorem dX9_from_88 : decode cX9_from 88 = .ok (.iload_n 3, 1) := by decide +kernel
theorem dX9_from_89 : decode cX9_from 89 = .ok (.iadd, 1) := by decide +kernel
theorem dX9_from_90 : decode cX9_from 90 = .ok (.iaload, 1) := by decide +kernel
theorem dX9_from_91 : decode cX9_from 91 = .ok (.iastore, 1) := by decide +kernel
theorem dX9_from_92 : decode cX9_from 92 = .ok (.aload_n 0, 1) := by decide +kernel
theorem dX9_from_93 : decode cX9_from 93 = .ok (.getfield 53, 3) := by decide +kernel
theorem dX9_from_96 : decode cX9_from 96 = .ok (.iload_n 3, 1) := by decide +kernel
theorem dX9_from_97 : decode cX9_from 97 = .ok (.aload_n 0, 1) := by decide +kernel
theorem dX9_from_98 : decode cX9_from 98 = .ok (.getfield 87, 3) := by decide +kernel
theorem dX9_from_101 : decode cX9_from 101 = .ok (.iload_n 2, 1) := by decide +kernel
theorem dX9_from_102 : decode cX9_from 102 = .ok (.bipush 33, 2) := by decide +kernel
theorem dX9_from_104 : decode cX9_from 104 = .ok (.iadd, 1) := by decide +kernel
theorem dX9_from_105 : decode cX9_from 105 = .ok (.iload_n 3, 1) := by decide +kernel
theorem dX9_from_106 : decode cX9_from 106 = .ok (.iadd, 1) := by decide +kernel
theorem dX9_from_107 : decode cX9_from 107 = .ok (.iaload, 1) := by decide +kernel
theorem dX9_from_108 : decode cX9_from 108 = .ok (.iastore, 1) := by decide +kernel
theorem dX9_from_109 : decode cX9_from 109 = .ok (.aload_n 0, 1) := by decide +kernel
theorem dX9_from_110 : decode cX9_from 110 = .ok (.getfield 56, 3) := by decide +kernel
theorem dX9_from_113 : decode cX9_from 113 = .ok (.iload_n 3, 1) := by decide +kernel
theorem dX9_from_114 : decode cX9_from 114 = .ok (.aload_n 0, 1) := by decide +kernel
theorem dX9_from_115 : decode cX9_from 115 = .ok (.getfield 87, 3) := by decide +kernel
theorem dX9_from_118 : decode cX9_from 118 = .ok (.iload_n 2, 1) := by decide +kernel
theorem dX9_from_119 : decode cX9_from 119 = .ok (.bipush 39, 2) := by decide +kernel
theorem dX9_from_121 : decode cX9_from 121 = .ok (.iadd, 1) := by decide +kernel
theorem dX9_from_122 : decode cX9_from 122 = .ok (.iload_n 3, 1) := by decide +kernel
theorem dX9_from_123 : decode cX9_from 123 = .ok (.iadd, 1) := by decide +kernel
theorem dX9_from_124 : decode cX9_from 124 = .ok (.iaload, 1) := by decide +kernel
theorem dX9_from_125 : decode cX9_from 125 = .ok (.iastore, 1) := by decide +kernel
theorem dX9_from_126 : decode cX9_from 126 = .ok (.aload_n 0, 1) := by decide +kernel
theorem dX9_from_127 : decode cX9_from 127 = .ok (.getfield 59, 3) := by decide +kernel
theorem dX9_from_130 : decode cX9_from 130 = .ok (.iload_n 3, 1) := by decide +kernel
theorem dX9_from_131 : decode cX9_from 131 = .ok (.aload_n 0, 1) := by decide +kernel
theorem dX9_from_132 : decode cX9_from 132 = .ok (.getfield 87, 3) := by decide +kernel
theorem dX9_from_135 : decode cX9_from 135 = .ok (.iload_n 2, 1) := by decide +kernel
theorem dX9_from_136 : decode cX9_from 136 = .ok (.bipush 45, 2) := by decide +kernel
theorem dX9_from_138 : decode cX9_from 138 = .ok (.iadd, 1) := by decide +kernel
theorem dX9_from_139 : decode cX9_from 139 = .ok (.iload_n 3, 1) := by decide +kernel
theorem dX9_from_140 : decode cX9_from 140 = .ok (.iadd, 1) := by decide +kernel
theorem dX9_from_141 : decode cX9_from 141 = .ok (.iaload, 1) := by decide +kernel
theorem dX9_from_142 : decode cX9_from 142 = .ok (.iastore, 1) := by decide +kernel
theorem dX9_from_143 : decode cX9_from 143 = .ok (.iinc 3 1, 3) := by decide +kernel
theorem dX9_from_146 : decode cX9_from 146 = .ok (.goto (-77), 3) := by decide +kernel
theorem dX9_from_149 : decode cX9_from 149 = .ok (.iconst 0, 1) := by decide +kernel
theorem dX9_from_150 : decode cX9_from 150 = .ok (.istore_n 3, 1) := by decide +kernel
theorem dX9_from_151 : decode cX9_from 151 = .ok (.iload_n 3, 1) := by decide +kernel
theorem dX9_from_152 : decode cX9_from 152 = .ok (.sipush 150, 3) := by decide +kernel
theorem dX9_from_155 : decode cX9_from 155 = .ok (.if_icmp .ge 26, 3) := by decide +kernel
theorem dX9_from_158 : decode cX9_from 158 = .ok (.aload_n 0, 1) := by decide +kernel
theorem dX9_from_159 : decode cX9_from 159 = .ok (.getfield 68, 3) := by decide +kernel
theorem dX9_from_162 : decode cX9_from 162 = .ok (.iload_n 3, 1) := by decide +kernel
theorem dX9_from_163 : decode cX9_from 163 = .ok (.aload_n 0, 1) := by decide +kernel
theorem dX9_from_164 : decode cX9_from 164 = .ok (.getfield 87, 3) := by decide +kernel
theorem dX9_from_167 : decode cX9_from 167 = .ok (.iload_n 2, 1) := by decide +kernel
theorem dX9_from_168 : decode cX9_from 168 = .ok (.bipush 51, 2) := by decide +kernel
theorem dX9_from_170 : decode cX9_from 170 = .ok (.iadd, 1) := by decide +kernel
theorem dX9_from_171 : decode cX9_from 171 = .ok (.iload_n 3, 1) := by decide +kernel
theorem dX9_from_172 : decode cX9_from 172 = .ok (.iadd, 1) := by decide +kernel
theorem dX9_from_173 : decode cX9_from 173 = .ok (.iaload, 1) := by decide +kernel
theorem dX9_from_174 : decode cX9_from 174 = .ok (.iastore, 1) := by decide +kernel
theorem dX9_from_175 : decode cX9_from 175 = .ok (.iinc 3 1, 3) := by decide +kernel
theorem dX9_from_178 : decode cX9_from 178 = .ok (.goto (-27), 3) := by decide +kernel
theorem dX9_from_181 : decode cX9_from 181 = .ok (.iconst 1, 1) := by decide +kernel
theorem dX9_from_182 : decode cX9_from 182 = .ok (.ireturn, 1) := by decide +kernel
theorem dX9_status_0 : decode cX9_status 0 = .ok (.iload_n 1, 1) := by decide +kernel
theorem dX9_status_1 : decode cX9_status 1 = .ok (.iconst 0, 1) := by decide +kernel
theorem dX9_status_2 : decode cX9_status 2 = .ok (.iconst 2, 1) := by decide +kernel
theorem dX9_status_3 : decode cX9_status 3 = .ok (.invokestatic 15, 3) := by decide +kernel
theorem dX9_status_6 : decode cX9_status 6 = .ok (.ifCond .ne 15, 3) := by decide +kernel
theorem dX9_status_9 : decode cX9_status 9 = .ok (.aload_n 0, 1) := by decide +kernel
theorem dX9_status_10 : decode cX9_status 10 = .ok (.getfield 1, 3) := by decide +kernel
theorem dX9_status_13 : decode cX9_status 13 = .ok (.iconst 0, 1) := by decide +kernel
theorem dX9_status_14 : decode cX9_status 14 = .ok (.dup2, 1) := by decide +kernel
theorem dX9_status_15 : decode cX9_status 15 = .ok (.iaload, 1) := by decide +kernel
theorem dX9_status_16 : decode cX9_status 16 = .ok (.iconst 1, 1) := by decide +kernel
theorem dX9_status_17 : decode cX9_status 17 = .ok (.iadd, 1) := by decide +kernel
theorem dX9_status_18 : decode cX9_status 18 = .ok (.iastore, 1) := by decide +kernel
theorem dX9_status_19 : decode cX9_status 19 = .ok (.iconst (-1), 1) := by decide +kernel
theorem dX9_status_20 : decode cX9_status 20 = .ok (.ireturn, 1) := by decide +kernel
theorem dX9_status_21 : decode cX9_status 21 = .ok (.aload_n 0, 1) := by decide +kernel
theorem dX9_status_22 : decode cX9_status 22 = .ok (.getfield 1, 3) := by decide +kernel
theorem dX9_status_25 : decode cX9_status 25 = .ok (.iload_n 1, 1) := by decide +kernel
theorem dX9_status_26 : decode cX9_status 26 = .ok (.iaload, 1) := by decide +kernel
theorem dX9_status_27 : decode cX9_status 27 = .ok (.ireturn, 1) := by decide +kernel
theorem dX9_sumOf_0 : decode cX9_sumOf 0 = .ok (.iconst 0, 1) := by decide +kernel
theorem dX9_sumOf_1 : decode cX9_sumOf 1 = .ok (.istore_n 2, 1) := by decide +kernel
theorem dX9_sumOf_2 : decode cX9_sumOf 2 = .ok (.iconst 0, 1) := by decide +kernel
theorem dX9_sumOf_3 : decode cX9_sumOf 3 = .ok (.istore_n 3, 1) := by decide +kernel
theorem dX9_sumOf_4 : decode cX9_sumOf 4 = .ok (.iload_n 3, 1) := by decide +kernel
theorem dX9_sumOf_5 : decode cX9_sumOf 5 = .ok (.aload_n 0, 1) := by decide +kernel
theorem dX9_sumOf_6 : decode cX9_sumOf 6 = .ok (.getfield 96, 3) := by decide +kernel
theorem dX9_sumOf_9 : decode cX9_sumOf 9 = .ok (.if_icmp .ge 15, 3) := by decide +kernel
theorem dX9_sumOf_12 : decode cX9_sumOf 12 = .ok (.iload_n 2, 1) := by decide +kernel
theorem dX9_sumOf_13 : decode cX9_sumOf 13 = .ok (.aload_n 1, 1) := by decide +kernel
theorem dX9_sumOf_14 : decode cX9_sumOf 14 = .ok (.iload_n 3, 1) := by decide +kernel
theorem dX9_sumOf_15 : decode cX9_sumOf 15 = .ok (.iaload, 1) := by decide +kernel
theorem dX9_sumOf_16 : decode cX9_sumOf 16 = .ok (.iadd, 1) := by decide +kernel
theorem dX9_sumOf_17 : decode cX9_sumOf 17 = .ok (.istore_n 2, 1) := by decide +kernel
theorem dX9_sumOf_18 : decode cX9_sumOf 18 = .ok (.iinc 3 1, 3) := by decide +kernel
theorem dX9_sumOf_21 : decode cX9_sumOf 21 = .ok (.goto (-17), 3) := by decide +kernel
theorem dX9_sumOf_24 : decode cX9_sumOf 24 = .ok (.iload_n 2, 1) := by decide +kernel
theorem dX9_sumOf_25 : decode cX9_sumOf 25 = .ok (.ireturn, 1) := by decide +kernel
theorem dX9_countOf_0 : decode cX9_countOf 0 = .ok (.iload_n 1, 1) := by decide +kernel
theorem dX9_countOf_1 : decode cX9_countOf 1 = .ok (.tableswitch 68 0 4 #[35, 40, 49, 58, 63], 35) := by decide +kernel
theorem dX9_countOf_36 : decode cX9_countOf 36 = .ok (.aload_n 0, 1) := by decide +kernel
theorem dX9_countOf_37 : decode cX9_countOf 37 = .ok (.getfield 96, 3) := by decide +kernel
theorem dX9_countOf_40 : decode cX9_countOf 40 = .ok (.ireturn, 1) := by decide +kernel
theorem dX9_countOf_41 : decode cX9_countOf 41 = .ok (.aload_n 0, 1) := by decide +kernel
theorem dX9_countOf_42 : decode cX9_countOf 42 = .ok (.aload_n 0, 1) := by decide +kernel
theorem dX9_countOf_43 : decode cX9_countOf 43 = .ok (.getfield 44, 3) := by decide +kernel
theorem dX9_countOf_46 : decode cX9_countOf 46 = .ok (.invokevirtual 273, 3) := by decide +kernel
theorem dX9_countOf_49 : decode cX9_countOf 49 = .ok (.ireturn, 1) := by decide +kernel
theorem dX9_countOf_50 : decode cX9_countOf 50 = .ok (.aload_n 0, 1) := by decide +kernel
theorem dX9_countOf_51 : decode cX9_countOf 51 = .ok (.aload_n 0, 1) := by decide +kernel
theorem dX9_countOf_52 : decode cX9_countOf 52 = .ok (.getfield 47, 3) := by decide +kernel
theorem dX9_countOf_55 : decode cX9_countOf 55 = .ok (.invokevirtual 273, 3) := by decide +kernel
theorem dX9_countOf_58 : decode cX9_countOf 58 = .ok (.ireturn, 1) := by decide +kernel
theorem dX9_countOf_59 : decode cX9_countOf 59 = .ok (.aload_n 0, 1) := by decide +kernel
theorem dX9_countOf_60 : decode cX9_countOf 60 = .ok (.getfield 100, 3) := by decide +kernel
theorem dX9_countOf_63 : decode cX9_countOf 63 = .ok (.ireturn, 1) := by decide +kernel
theorem dX9_countOf_64 : decode cX9_countOf 64 = .ok (.aload_n 0, 1) := by decide +kernel
theorem dX9_countOf_65 : decode cX9_countOf 65 = .ok (.getfield 103, 3) := by decide +kernel
theorem dX9_countOf_68 : decode cX9_countOf 68 = .ok (.ireturn, 1) := by decide +kernel
theorem dX9_countOf_69 : decode cX9_countOf 69 = .ok (.aload_n 0, 1) := by decide +kernel
theorem dX9_countOf_70 : decode cX9_countOf 70 = .ok (.getfield 121, 3) := by decide +kernel
theorem dX9_countOf_73 : decode cX9_countOf 73 = .ok (.ireturn, 1) := by decide +kernel
theorem dX9_count_0 : decode cX9_count 0 = .ok (.iload_n 1, 1) := by decide +kernel
theorem dX9_count_1 : decode cX9_count 1 = .ok (.iconst 0, 1) := by decide +kernel
theorem dX9_count_2 : decode cX9_count 2 = .ok (.iconst 5, 1) := by decide +kernel
theorem dX9_count_3 : decode cX9_count 3 = .ok (.invokestatic 15, 3) := by decide +kernel
theorem dX9_count_6 : decode cX9_count 6 = .ok (.ifCond .eq 11, 3) := by decide +kernel
theorem dX9_count_9 : decode cX9_count 9 = .ok (.aload_n 0, 1) := by decide +kernel
theorem dX9_count_10 : decode cX9_count 10 = .ok (.iload_n 1, 1) := by decide +kernel
theorem dX9_count_11 : decode cX9_count 11 = .ok (.invokevirtual 277, 3) := by decide +kernel
theorem dX9_count_14 : decode cX9_count 14 = .ok (.goto 7, 3) := by decide +kernel
theorem dX9_count_17 : decode cX9_count 17 = .ok (.aload_n 0, 1) := by decide +kernel
theorem dX9_count_18 : decode cX9_count 18 = .ok (.invokevirtual 110, 3) := by decide +kernel
theorem dX9_count_21 : decode cX9_count 21 = .ok (.ireturn, 1) := by decide +kernel
theorem dX9_mix_0 : decode cX9_mix 0 = .ok (.aload_n 0, 1) := by decide +kernel
theorem dX9_mix_1 : decode cX9_mix 1 = .ok (.ldc2_w 280, 3) := by decide +kernel
theorem dX9_mix_4 : decode cX9_mix 4 = .ok (.aload_n 0, 1) := by decide +kernel
theorem dX9_mix_5 : decode cX9_mix 5 = .ok (.getfield 282, 3) := by decide +kernel
theorem dX9_mix_8 : decode cX9_mix 8 = .ok (.lmul, 1) := by decide +kernel
theorem dX9_mix_9 : decode cX9_mix 9 = .ok (.lload_n 1, 1) := by decide +kernel
theorem dX9_mix_10 : decode cX9_mix 10 = .ok (.ladd, 1) := by decide +kernel
theorem dX9_mix_11 : decode cX9_mix 11 = .ok (.putfield 282, 3) := by decide +kernel
theorem dX9_mix_14 : decode cX9_mix 14 = .ok (.return_, 1) := by decide +kernel
theorem dX9_digest_0 : decode cX9_digest 0 = .ok (.aload_n 0, 1) := by decide +kernel
theorem dX9_digest_1 : decode cX9_digest 1 = .ok (.ldc2_w 285, 3) := by decide +kernel
theorem dX9_digest_4 : decode cX9_digest 4 = .ok (.putfield 282, 3) := by decide +kernel
theorem dX9_digest_7 : decode cX9_digest 7 = .ok (.iconst 0, 1) := by decide +kernel
theorem dX9_digest_8 : decode cX9_digest 8 = .ok (.istore_n 1, 1) := by decide +kernel
theorem dX9_digest_9 : decode cX9_digest 9 = .ok (.iload_n 1, 1) := by decide +kernel
theorem dX9_digest_10 : decode cX9_digest 10 = .ok (.iconst 5, 1) := by decide +kernel
theorem dX9_digest_11 : decode cX9_digest 11 = .ok (.if_icmp .gt 19, 3) := by decide +kernel
theorem dX9_digest_14 : decode cX9_digest 14 = .ok (.aload_n 0, 1) := by decide +kernel
theorem dX9_digest_15 : decode cX9_digest 15 = .ok (.aload_n 0, 1) := by decide +kernel
theorem dX9_digest_16 : decode cX9_digest 16 = .ok (.iload_n 1, 1) := by decide +kernel
theorem dX9_digest_17 : decode cX9_digest 17 = .ok (.invokevirtual 277, 3) := by decide +kernel
theorem dX9_digest_20 : decode cX9_digest 20 = .ok (.i2l, 1) := by decide +kernel
theorem dX9_digest_21 : decode cX9_digest 21 = .ok (.invokevirtual 287, 3) := by decide +kernel
theorem dX9_digest_24 : decode cX9_digest 24 = .ok (.iinc 1 1, 3) := by decide +kernel
theorem dX9_digest_27 : decode cX9_digest 27 = .ok (.goto (-18), 3) := by decide +kernel
theorem dX9_digest_30 : decode cX9_digest 30 = .ok (.iconst 0, 1) := by decide +kernel
theorem dX9_digest_31 : decode cX9_digest 31 = .ok (.istore_n 1, 1) := by decide +kernel
theorem dX9_digest_32 : decode cX9_digest 32 = .ok (.iload_n 1, 1) := by decide +kernel
theorem dX9_digest_33 : decode cX9_digest 33 = .ok (.aload_n 0, 1) := by decide +kernel
theorem dX9_digest_34 : decode cX9_digest 34 = .ok (.getfield 96, 3) := by decide +kernel
theorem dX9_digest_37 : decode cX9_digest 37 = .ok (.if_icmp .ge 53, 3) := by decide +kernel
theorem dX9_digest_40 : decode cX9_digest 40 = .ok (.aload_n 0, 1) := by decide +kernel
theorem dX9_digest_41 : decode cX9_digest 41 = .ok (.aload_n 0, 1) := by decide +kernel
theorem dX9_digest_42 : decode cX9_digest 42 = .ok (.getfield 38, 3) := by decide +kernel
theorem dX9_digest_45 : decode cX9_digest 45 = .ok (.iload_n 1, 1) := by decide +kernel
theorem dX9_digest_46 : decode cX9_digest 46 = .ok (.iaload, 1) := by decide +kernel
theorem dX9_digest_47 : decode cX9_digest 47 = .ok (.i2l, 1) := by decide +kernel
theorem dX9_digest_48 : decode cX9_digest 48 = .ok (.invokevirtual 287, 3) := by decide +kernel
theorem dX9_digest_51 : decode cX9_digest 51 = .ok (.aload_n 0, 1) := by decide +kernel
theorem dX9_digest_52 : decode cX9_digest 52 = .ok (.aload_n 0, 1) := by decide +kernel
theorem dX9_digest_53 : decode cX9_digest 53 = .ok (.getfield 41, 3) := by decide +kernel
theorem dX9_digest_56 : decode cX9_digest 56 = .ok (.iload_n 1, 1) := by decide +kernel
theorem dX9_digest_57 : decode cX9_digest 57 = .ok (.iaload, 1) := by decide +kernel
theorem dX9_digest_58 : decode cX9_digest 58 = .ok (.i2l, 1) := by decide +kernel
theorem dX9_digest_59 : decode cX9_digest 59 = .ok (.invokevirtual 287, 3) := by decide +kernel
theorem dX9_digest_62 : decode cX9_digest 62 = .ok (.aload_n 0, 1) := by decide +kernel
theorem dX9_digest_63 : decode cX9_digest 63 = .ok (.aload_n 0, 1) := by decide +kernel
theorem dX9_digest_64 : decode cX9_digest 64 = .ok (.getfield 44, 3) := by decide +kernel
theorem dX9_digest_67 : decode cX9_digest 67 = .ok (.iload_n 1, 1) := by decide +kernel
theorem dX9_digest_68 : decode cX9_digest 68 = .ok (.iaload, 1) := by decide +kernel
theorem dX9_digest_69 : decode cX9_digest 69 = .ok (.i2l, 1) := by decide +kernel
theorem dX9_digest_70 : decode cX9_digest 70 = .ok (.invokevirtual 287, 3) := by decide +kernel
theorem dX9_digest_73 : decode cX9_digest 73 = .ok (.aload_n 0, 1) := by decide +kernel
theorem dX9_digest_74 : decode cX9_digest 74 = .ok (.aload_n 0, 1) := by decide +kernel
theorem dX9_digest_75 : decode cX9_digest 75 = .ok (.getfield 47, 3) := by decide +kernel
theorem dX9_digest_78 : decode cX9_digest 78 = .ok (.iload_n 1, 1) := by decide +kernel
theorem dX9_digest_79 : decode cX9_digest 79 = .ok (.iaload, 1) := by decide +kernel
theorem dX9_digest_80 : decode cX9_digest 80 = .ok (.i2l, 1) := by decide +kernel
theorem dX9_digest_81 : decode cX9_digest 81 = .ok (.invokevirtual 287, 3) := by decide +kernel
theorem dX9_digest_84 : decode cX9_digest 84 = .ok (.iinc 1 1, 3) := by decide +kernel
theorem dX9_digest_87 : decode cX9_digest 87 = .ok (.goto (-55), 3) := by decide +kernel
theorem dX9_digest_90 : decode cX9_digest 90 = .ok (.iconst 0, 1) := by decide +kernel
theorem dX9_digest_91 : decode cX9_digest 91 = .ok (.istore_n 1, 1) := by decide +kernel
theorem dX9_digest_92 : decode cX9_digest 92 = .ok (.iload_n 1, 1) := by decide +kernel
theorem dX9_digest_93 : decode cX9_digest 93 = .ok (.aload_n 0, 1) := by decide +kernel
theorem dX9_digest_94 : decode cX9_digest 94 = .ok (.getfield 100, 3) := by decide +kernel
theorem dX9_digest_97 : decode cX9_digest 97 = .ok (.if_icmp .ge 53, 3) := by decide +kernel
theorem dX9_digest_100 : decode cX9_digest 100 = .ok (.aload_n 0, 1) := by decide +kernel
theorem dX9_digest_101 : decode cX9_digest 101 = .ok (.aload_n 0, 1) := by decide +kernel
theorem dX9_digest_102 : decode cX9_digest 102 = .ok (.getfield 50, 3) := by decide +kernel
theorem dX9_digest_105 : decode cX9_digest 105 = .ok (.iload_n 1, 1) := by decide +kernel
theorem dX9_digest_106 : decode cX9_digest 106 = .ok (.iaload, 1) := by decide +kernel
theorem dX9_digest_107 : decode cX9_digest 107 = .ok (.i2l, 1) := by decide +kernel
theorem dX9_digest_108 : decode cX9_digest 108 = .ok (.invokevirtual 287, 3) := by decide +kernel
theorem dX9_digest_111 : decode cX9_digest 111 = .ok (.aload_n 0, 1) := by decide +kernel
theorem dX9_digest_112 : decode cX9_digest 112 = .ok (.aload_n 0, 1) := by decide +kernel
theorem dX9_digest_113 : decode cX9_digest 113 = .ok (.getfield 53, 3) := by decide +kernel
theorem dX9_digest_116 : decode cX9_digest 116 = .ok (.iload_n 1, 1) := by decide +kernel
theorem dX9_digest_117 : decode cX9_digest 117 = .ok (.iaload, 1) := by decide +kernel
theorem dX9_digest_118 : decode cX9_digest 118 = .ok (.i2l, 1) := by decide +kernel
theorem dX9_digest_119 : decode cX9_digest 119 = .ok (.invokevirtual 287, 3) := by decide +kernel
theorem dX9_digest_122 : decode cX9_digest 122 = .ok (.aload_n 0, 1) := by decide +kernel
theorem dX9_digest_123 : decode cX9_digest 123 = .ok (.aload_n 0, 1) := by decide +kernel
theorem dX9_digest_124 : decode cX9_digest 124 = .ok (.getfield 56, 3) := by decide +kernel
theorem dX9_digest_127 : decode cX9_digest 127 = .ok (.iload_n 1, 1) := by decide +kernel
theorem dX9_digest_128 : decode cX9_digest 128 = .ok (.iaload, 1) := by decide +kernel
theorem dX9_digest_129 : decode cX9_digest 129 = .ok (.i2l, 1) := by decide +kernel
theorem dX9_digest_130 : decode cX9_digest 130 = .ok (.invokevirtual 287, 3) := by decide +kernel
theorem dX9_digest_133 : decode cX9_digest 133 = .ok (.aload_n 0, 1) := by decide +kernel
theorem dX9_digest_134 : decode cX9_digest 134 = .ok (.aload_n 0, 1) := by decide +kernel
theorem dX9_digest_135 : decode cX9_digest 135 = .ok (.getfield 59, 3) := by decide +kernel
theorem dX9_digest_138 : decode cX9_digest 138 = .ok (.iload_n 1, 1) := by decide +kernel
theorem dX9_digest_139 : decode cX9_digest 139 = .ok (.iaload, 1) := by decide +kernel
theorem dX9_digest_140 : decode cX9_digest 140 = .ok (.i2l, 1) := by decide +kernel
theorem dX9_digest_141 : decode cX9_digest 141 = .ok (.invokevirtual 287, 3) := by decide +kernel
theorem dX9_digest_144 : decode cX9_digest 144 = .ok (.iinc 1 1, 3) := by decide +kernel
theorem dX9_digest_147 : decode cX9_digest 147 = .ok (.goto (-55), 3) := by decide +kernel
theorem dX9_digest_150 : decode cX9_digest 150 = .ok (.aload_n 0, 1) := by decide +kernel
theorem dX9_digest_151 : decode cX9_digest 151 = .ok (.aload_n 0, 1) := by decide +kernel
theorem dX9_digest_152 : decode cX9_digest 152 = .ok (.getfield 249, 3) := by decide +kernel
theorem dX9_digest_155 : decode cX9_digest 155 = .ok (.invokevirtual 287, 3) := by decide +kernel
theorem dX9_digest_158 : decode cX9_digest 158 = .ok (.aload_n 0, 1) := by decide +kernel
theorem dX9_digest_159 : decode cX9_digest 159 = .ok (.aload_n 0, 1) := by decide +kernel
theorem dX9_digest_160 : decode cX9_digest 160 = .ok (.getfield 80, 3) := by decide +kernel
theorem dX9_digest_163 : decode cX9_digest 163 = .ok (.invokevirtual 287, 3) := by decide +kernel
theorem dX9_digest_166 : decode cX9_digest 166 = .ok (.aload_n 0, 1) := by decide +kernel
theorem dX9_digest_167 : decode cX9_digest 167 = .ok (.getfield 282, 3) := by decide +kernel
theorem dX9_digest_170 : decode cX9_digest 170 = .ok (.lreturn, 1) := by decide +kernel

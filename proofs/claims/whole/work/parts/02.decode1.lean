theorem dX0_init_0 : decode cX0_init 0 = .ok (.aload_n 0, 1) := by decide +kernel
theorem dX0_init_1 : decode cX0_init 1 = .ok (.invokespecial 3, 3) := by decide +kernel
theorem dX0_init_4 : decode cX0_init 4 = .ok (.return_, 1) := by decide +kernel
theorem dX0_fit_0 : decode cX0_fit 0 = .ok (.iconst 0, 1) := by decide +kernel
theorem dX0_fit_1 : decode cX0_fit 1 = .ok (.istore 4, 2) := by decide +kernel
theorem dX0_fit_3 : decode cX0_fit 3 = .ok (.iload 4, 2) := by decide +kernel
theorem dX0_fit_5 : decode cX0_fit 5 = .ok (.aload_n 0, 1) := by decide +kernel
theorem dX0_fit_6 : decode cX0_fit 6 = .ok (.getfield 9, 3) := by decide +kernel
theorem dX0_fit_9 : decode cX0_fit 9 = .ok (.if_icmp .ge 33, 3) := by decide +kernel
theorem dX0_fit_12 : decode cX0_fit 12 = .ok (.aload_n 0, 1) := by decide +kernel
theorem dX0_fit_13 : decode cX0_fit 13 = .ok (.iload 4, 2) := by decide +kernel
theorem dX0_fit_15 : decode cX0_fit 15 = .ok (.iconst 0, 1) := by decide +kernel
theorem dX0_fit_16 : decode cX0_fit 16 = .ok (.invokevirtual 15, 3) := by decide +kernel
theorem dX0_fit_19 : decode cX0_fit 19 = .ok (.iload_n 1, 1) := by decide +kernel
theorem dX0_fit_20 : decode cX0_fit 20 = .ok (.if_icmp .ne 16, 3) := by decide +kernel
theorem dX0_fit_23 : decode cX0_fit 23 = .ok (.aload_n 0, 1) := by decide +kernel
theorem dX0_fit_24 : decode cX0_fit 24 = .ok (.iload 4, 2) := by decide +kernel
theorem dX0_fit_26 : decode cX0_fit 26 = .ok (.iload_n 2, 1) := by decide +kernel
theorem dX0_fit_27 : decode cX0_fit 27 = .ok (.iload_n 3, 1) := by decide +kernel
theorem dX0_fit_28 : decode cX0_fit 28 = .ok (.invokevirtual 19, 3) := by decide +kernel
theorem dX0_fit_31 : decode cX0_fit 31 = .ok (.ifCond .ne 5, 3) := by decide +kernel
theorem dX0_fit_34 : decode cX0_fit 34 = .ok (.iconst 0, 1) := by decide +kernel
theorem dX0_fit_35 : decode cX0_fit 35 = .ok (.ireturn, 1) := by decide +kernel
theorem dX0_fit_36 : decode cX0_fit 36 = .ok (.iinc 4 1, 3) := by decide +kernel
theorem dX0_fit_39 : decode cX0_fit 39 = .ok (.goto (-36), 3) := by decide +kernel
theorem dX0_fit_42 : decode cX0_fit 42 = .ok (.iconst 1, 1) := by decide +kernel
theorem dX0_fit_43 : decode cX0_fit 43 = .ok (.ireturn, 1) := by decide +kernel
theorem dX0_fits_0 : decode cX0_fits 0 = .ok (.iload_n 2, 1) := by decide +kernel
theorem dX0_fits_1 : decode cX0_fits 1 = .ok (.iload_n 3, 1) := by decide +kernel
theorem dX0_fits_2 : decode cX0_fits 2 = .ok (.aload_n 0, 1) := by decide +kernel
theorem dX0_fits_3 : decode cX0_fits 3 = .ok (.iload_n 1, 1) := by decide +kernel
theorem dX0_fits_4 : decode cX0_fits 4 = .ok (.iconst 1, 1) := by decide +kernel
theorem dX0_fits_5 : decode cX0_fits 5 = .ok (.invokevirtual 15, 3) := by decide +kernel
theorem dX0_fits_8 : decode cX0_fits 8 = .ok (.aload_n 0, 1) := by decide +kernel
theorem dX0_fits_9 : decode cX0_fits 9 = .ok (.iload_n 1, 1) := by decide +kernel
theorem dX0_fits_10 : decode cX0_fits 10 = .ok (.iconst 2, 1) := by decide +kernel
theorem dX0_fits_11 : decode cX0_fits 11 = .ok (.invokevirtual 15, 3) := by decide +kernel
theorem dX0_fits_14 : decode cX0_fits 14 = .ok (.invokestatic 23, 3) := by decide +kernel
theorem dX0_fits_17 : decode cX0_fits 17 = .ok (.istore 4, 2) := by decide +kernel
theorem dX0_fits_19 : decode cX0_fits 19 = .ok (.iload 4, 2) := by decide +kernel
theorem dX0_fits_21 : decode cX0_fits 21 = .ok (.aload_n 0, 1) := by decide +kernel
theorem dX0_fits_22 : decode cX0_fits 22 = .ok (.iload_n 1, 1) := by decide +kernel
theorem dX0_fits_23 : decode cX0_fits 23 = .ok (.iconst 3, 1) := by decide +kernel
theorem dX0_fits_24 : decode cX0_fits 24 = .ok (.invokevirtual 15, 3) := by decide +kernel
theorem dX0_fits_27 : decode cX0_fits 27 = .ok (.if_icmp .ne 7, 3) := by decide +kernel
theorem dX0_fits_30 : decode cX0_fits 30 = .ok (.iconst 1, 1) := by decide +kernel
theorem dX0_fits_31 : decode cX0_fits 31 = .ok (.goto 4, 3) := by decide +kernel
theorem dX0_fits_34 : decode cX0_fits 34 = .ok (.iconst 0, 1) := by decide +kernel
theorem dX0_fits_35 : decode cX0_fits 35 = .ok (.ireturn, 1) := by decide +kernel
theorem dX1_init_0 : decode cX1_init 0 = .ok (.aload_n 0, 1) := by decide +kernel
theorem dX1_init_1 : decode cX1_init 1 = .ok (.invokespecial 3, 3) := by decide +kernel
theorem dX1_init_4 : decode cX1_init 4 = .ok (.aload_n 0, 1) := by decide +kernel
theorem dX1_init_5 : decode cX1_init 5 = .ok (.sipush 144, 3) := by decide +kernel
theorem dX1_init_8 : decode cX1_init 8 = .ok (.newarray .int, 2) := by decide +kernel
theorem dX1_init_10 : decode cX1_init 10 = .ok (.putfield 11, 3) := by decide +kernel
theorem dX1_init_13 : decode cX1_init 13 = .ok (.aload_n 0, 1) := by decide +kernel
theorem dX1_init_14 : decode cX1_init 14 = .ok (.bipush 6, 2) := by decide +kernel
theorem dX1_init_16 : decode cX1_init 16 = .ok (.newarray .int, 2) := by decide +kernel
theorem dX1_init_18 : decode cX1_init 18 = .ok (.putfield 15, 3) := by decide +kernel
theorem dX1_init_21 : decode cX1_init 21 = .ok (.aload_n 0, 1) := by decide +kernel
theorem dX1_init_22 : decode cX1_init 22 = .ok (.iconst 0, 1) := by decide +kernel
theorem dX1_init_23 : decode cX1_init 23 = .ok (.putfield 18, 3) := by decide +kernel
theorem dX1_init_26 : decode cX1_init 26 = .ok (.return_, 1) := by decide +kernel
theorem dX1_size_0 : decode cX1_size 0 = .ok (.aload_n 0, 1) := by decide +kernel
theorem dX1_size_1 : decode cX1_size 1 = .ok (.getfield 18, 3) := by decide +kernel
theorem dX1_size_4 : decode cX1_size 4 = .ok (.ireturn, 1) := by decide +kernel
theorem dX1_empty_0 : decode cX1_empty 0 = .ok (.aload_n 0, 1) := by decide +kernel
theorem dX1_empty_1 : decode cX1_empty 1 = .ok (.iconst 0, 1) := by decide +kernel
theorem dX1_empty_2 : decode cX1_empty 2 = .ok (.putfield 18, 3) := by decide +kernel
theorem dX1_empty_5 : decode cX1_empty 5 = .ok (.return_, 1) := by decide +kernel
theorem dX1_copyFrom_0 : decode cX1_copyFrom 0 = .ok (.aload_n 1, 1) := by decide +kernel
theorem dX1_copyFrom_1 : decode cX1_copyFrom 1 = .ok (.getfield 11, 3) := by decide +kernel
theorem dX1_copyFrom_4 : decode cX1_copyFrom 4 = .ok (.iconst 0, 1) := by decide +kernel
theorem dX1_copyFrom_5 : decode cX1_copyFrom 5 = .ok (.aload_n 0, 1) := by decide +kernel
theorem dX1_copyFrom_6 : decode cX1_copyFrom 6 = .ok (.getfield 11, 3) := by decide +kernel
theorem dX1_copyFrom_9 : decode cX1_copyFrom 9 = .ok (.iconst 0, 1) := by decide +kernel
theorem dX1_copyFrom_10 : decode cX1_copyFrom 10 = .ok (.aload_n 0, 1) := by decide +kernel
theorem dX1_copyFrom_11 : decode cX1_copyFrom 11 = .ok (.getfield 11, 3) := by decide +kernel
theorem dX1_copyFrom_14 : decode cX1_copyFrom 14 = .ok (.arraylength, 1) := by decide +kernel
theorem dX1_copyFrom_15 : decode cX1_copyFrom 15 = .ok (.invokestatic 22, 3) := by decide +kernel
theorem dX1_copyFrom_18 : decode cX1_copyFrom 18 = .ok (.aload_n 1, 1) := by decide +kernel
theorem dX1_copyFrom_19 : decode cX1_copyFrom 19 = .ok (.getfield 15, 3) := by decide +kernel
theorem dX1_copyFrom_22 : decode cX1_copyFrom 22 = .ok (.iconst 0, 1) := by decide +kernel
theorem dX1_copyFrom_23 : decode cX1_copyFrom 23 = .ok (.aload_n 0, 1) := by decide +kernel
theorem dX1_copyFrom_24 : decode cX1_copyFrom 24 = .ok (.getfield 15, 3) := by decide +kernel
theorem dX1_copyFrom_27 : decode cX1_copyFrom 27 = .ok (.iconst 0, 1) := by decide +kernel
theorem dX1_copyFrom_28 : decode cX1_copyFrom 28 = .ok (.aload_n 0, 1) := by decide +kernel
theorem dX1_copyFrom_29 : decode cX1_copyFrom 29 = .ok (.getfield 15, 3) := by decide +kernel
theorem dX1_copyFrom_32 : decode cX1_copyFrom 32 = .ok (.arraylength, 1) := by decide +kernel
theorem dX1_copyFrom_33 : decode cX1_copyFrom 33 = .ok (.invokestatic 22, 3) := by decide +kernel
theorem dX1_copyFrom_36 : decode cX1_copyFrom 36 = .ok (.aload_n 0, 1) := by decide +kernel
theorem dX1_copyFrom_37 : decode cX1_copyFrom 37 = .ok (.aload_n 1, 1) := by decide +kernel
theorem dX1_copyFrom_38 : decode cX1_copyFrom 38 = .ok (.getfield 18, 3) := by decide +kernel
theorem dX1_copyFrom_41 : decode cX1_copyFrom 41 = .ok (.putfield 18, 3) := by decide +kernel
theorem dX1_copyFrom_44 : decode cX1_copyFrom 44 = .ok (.return_, 1) := by decide +kernel
theorem dX1_keep_0 : decode cX1_keep 0 = .ok (.aload_n 0, 1) := by decide +kernel
theorem dX1_keep_1 : decode cX1_keep 1 = .ok (.getfield 18, 3) := by decide +kernel
theorem dX1_keep_4 : decode cX1_keep 4 = .ok (.bipush 6, 2) := by decide +kernel
theorem dX1_keep_6 : decode cX1_keep 6 = .ok (.if_icmp .lt 7, 3) := by decide +kernel
theorem dX1_keep_9 : decode cX1_keep 9 = .ok (.aload_n 0, 1) := by decide +kernel
theorem dX1_keep_10 : decode cX1_keep 10 = .ok (.invokevirtual 28, 3) := by decide +kernel
theorem dX1_keep_13 : decode cX1_keep 13 = .ok (.aload_n 1, 1) := by decide +kernel
theorem dX1_keep_14 : decode cX1_keep 14 = .ok (.getfield 31, 3) := by decide +kernel
theorem dX1_keep_17 : decode cX1_keep 17 = .ok (.iconst 0, 1) := by decide +kernel
theorem dX1_keep_18 : decode cX1_keep 18 = .ok (.aload_n 0, 1) := by decide +kernel
theorem dX1_keep_19 : decode cX1_keep 19 = .ok (.getfield 11, 3) := by decide +kernel
theorem dX1_keep_22 : decode cX1_keep 22 = .ok (.aload_n 0, 1) := by decide +kernel
theorem dX1_keep_23 : decode cX1_keep 23 = .ok (.getfield 18, 3) := by decide +kernel
theorem dX1_keep_26 : decode cX1_keep 26 = .ok (.bipush 24, 2) := by decide +kernel
theorem dX1_keep_28 : decode cX1_keep 28 = .ok (.imul, 1) := by decide +kernel
theorem dX1_keep_29 : decode cX1_keep 29 = .ok (.bipush 24, 2) := by decide +kernel
theorem dX1_keep_31 : decode cX1_keep 31 = .ok (.invokestatic 22, 3) := by decide +kernel
theorem dX1_keep_34 : decode cX1_keep 34 = .ok (.aload_n 0, 1) := by decide +kernel
theorem dX1_keep_35 : decode cX1_keep 35 = .ok (.getfield 15, 3) := by decide +kernel
theorem dX1_keep_38 : decode cX1_keep 38 = .ok (.aload_n 0, 1) := by decide +kernel
theorem dX1_keep_39 : decode cX1_keep 39 = .ok (.getfield 18, 3) := by decide +kernel
theorem dX1_keep_42 : decode cX1_keep 42 = .ok (.aload_n 1, 1) := by decide +kernel
theorem dX1_keep_43 : decode cX1_keep 43 = .ok (.getfield 34, 3) := by decide +kernel
theorem dX1_keep_46 : decode cX1_keep 46 = .ok (.iastore, 1) := by decide +kernel
theorem dX1_keep_47 : decode cX1_keep 47 = .ok (.aload_n 0, 1) := by decide +kernel
theorem dX1_keep_48 : decode cX1_keep 48 = .ok (.dup, 1) := by decide +kernel
theorem dX1_keep_49 : decode cX1_keep 49 = .ok (.getfield 18, 3) := by decide +kernel
theorem dX1_keep_52 : decode cX1_keep 52 = .ok (.iconst 1, 1) := by decide +kernel
theorem dX1_keep_53 : decode cX1_keep 53 = .ok (.iadd, 1) := by decide +kernel
theorem dX1_keep_54 : decode cX1_keep 54 = .ok (.putfield 18, 3) := by decide +kernel
theorem dX1_keep_57 : decode cX1_keep 57 = .ok (.return_, 1) := by decide +kernel
theorem dX1_giveBack_0 : decode cX1_giveBack 0 = .ok (.aload_n 0, 1) := by decide +kernel
theorem dX1_giveBack_1 : decode cX1_giveBack 1 = .ok (.getfield 18, 3) := by decide +kernel
theorem dX1_giveBack_4 : decode cX1_giveBack 4 = .ok (.ifCond .le 47, 3) := by decide +kernel
theorem dX1_giveBack_7 : decode cX1_giveBack 7 = .ok (.aload_n 0, 1) := by decide +kernel
theorem dX1_giveBack_8 : decode cX1_giveBack 8 = .ok (.dup, 1) := by decide +kernel
theorem dX1_giveBack_9 : decode cX1_giveBack 9 = .ok (.getfield 18, 3) := by decide +kernel
theorem dX1_giveBack_12 : decode cX1_giveBack 12 = .ok (.iconst 1, 1) := by decide +kernel
theorem dX1_giveBack_13 : decode cX1_giveBack 13 = .ok (.isub, 1) := by decide +kernel
theorem dX1_giveBack_14 : decode cX1_giveBack 14 = .ok (.putfield 18, 3) := by decide +kernel
theorem dX1_giveBack_17 : decode cX1_giveBack 17 = .ok (.aload_n 0, 1) := by decide +kernel
theorem dX1_giveBack_18 : decode cX1_giveBack 18 = .ok (.getfield 11, 3) := by decide +kernel
theorem dX1_giveBack_21 : decode cX1_giveBack 21 = .ok (.aload_n 0, 1) := by decide +kernel
theorem dX1_giveBack_22 : decode cX1_giveBack 22 = .ok (.getfield 18, 3) := by decide +kernel
theorem dX1_giveBack_25 : decode cX1_giveBack 25 = .ok (.bipush 24, 2) := by decide +kernel
theorem dX1_giveBack_27 : decode cX1_giveBack 27 = .ok (.imul, 1) := by decide +kernel
theorem dX1_giveBack_28 : decode cX1_giveBack 28 = .ok (.aload_n 1, 1) := by decide +kernel
theorem dX1_giveBack_29 : decode cX1_giveBack 29 = .ok (.getfield 31, 3) := by decide +kernel
theorem dX1_giveBack_32 : decode cX1_giveBack 32 = .ok (.iconst 0, 1) := by decide +kernel
theorem dX1_giveBack_33 : decode cX1_giveBack 33 = .ok (.bipush 24, 2) := by decide +kernel
theorem dX1_giveBack_35 : decode cX1_giveBack 35 = .ok (.invokestatic 22, 3) := by decide +kernel
theorem dX1_giveBack_38 : decode cX1_giveBack 38 = .ok (.aload_n 1, 1) := by decide +kernel
theorem dX1_giveBack_39 : decode cX1_giveBack 39 = .ok (.aload_n 0, 1) := by decide +kernel
theorem dX1_giveBack_40 : decode cX1_giveBack 40 = .ok (.getfield 15, 3) := by decide +kernel
theorem dX1_giveBack_43 : decode cX1_giveBack 43 = .ok (.aload_n 0, 1) := by decide +kernel
theorem dX1_giveBack_44 : decode cX1_giveBack 44 = .ok (.getfield 18, 3) := by decide +kernel
theorem dX1_giveBack_47 : decode cX1_giveBack 47 = .ok (.iaload, 1) := by decide +kernel
theorem dX1_giveBack_48 : decode cX1_giveBack 48 = .ok (.putfield 34, 3) := by decide +kernel
theorem dX1_giveBack_51 : decode cX1_giveBack 51 = .ok (.return_, 1) := by decide +kernel
theorem dX1_loseFirst_0 : decode cX1_loseFirst 0 = .ok (.aload_n 0, 1) := by decide +kernel
theorem dX1_loseFirst_1 : decode cX1_loseFirst 1 = .ok (.getfield 11, 3) := by decide +kernel
theorem dX1_loseFirst_4 : decode cX1_loseFirst 4 = .ok (.bipush 24, 2) := by decide +kernel
theorem dX1_loseFirst_6 : decode cX1_loseFirst 6 = .ok (.aload_n 0, 1) := by decide +kernel
theorem dX1_loseFirst_7 : decode cX1_loseFirst 7 = .ok (.getfield 11, 3) := by decide +kernel
theorem dX1_loseFirst_10 : decode cX1_loseFirst 10 = .ok (.iconst 0, 1) := by decide +kernel
theorem dX1_loseFirst_11 : decode cX1_loseFirst 11 = .ok (.aload_n 0, 1) := by decide +kernel
theorem dX1_loseFirst_12 : decode cX1_loseFirst 12 = .ok (.getfield 11, 3) := by decide +kernel
theorem dX1_loseFirst_15 : decode cX1_loseFirst 15 = .ok (.arraylength, 1) := by decide +kernel
theorem dX1_loseFirst_16 : decode cX1_loseFirst 16 = .ok (.bipush 24, 2) := by decide +kernel
theorem dX1_loseFirst_18 : decode cX1_loseFirst 18 = .ok (.isub, 1) := by decide +kernel
theorem dX1_loseFirst_19 : decode cX1_loseFirst 19 = .ok (.invokestatic 22, 3) := by decide +kernel
theorem dX1_loseFirst_22 : decode cX1_loseFirst 22 = .ok (.aload_n 0, 1) := by decide +kernel
theorem dX1_loseFirst_23 : decode cX1_loseFirst 23 = .ok (.getfield 15, 3) := by decide +kernel
theorem dX1_loseFirst_26 : decode cX1_loseFirst 26 = .ok (.iconst 1, 1) := by decide +kernel
theorem dX1_loseFirst_27 : decode cX1_loseFirst 27 = .ok (.aload_n 0, 1) := by decide +kernel
theorem dX1_loseFirst_28 : decode cX1_loseFirst 28 = .ok (.getfield 15, 3) := by decide +kernel
theorem dX1_loseFirst_31 : decode cX1_loseFirst 31 = .ok (.iconst 0, 1) := by decide +kernel
theorem dX1_loseFirst_32 : decode cX1_loseFirst 32 = .ok (.aload_n 0, 1) := by decide +kernel
theorem dX1_loseFirst_33 : decode cX1_loseFirst 33 = .ok (.getfield 15, 3) := by decide +kernel
theorem dX1_loseFirst_36 : decode cX1_loseFirst 36 = .ok (.arraylength, 1) := by decide +kernel
theorem dX1_loseFirst_37 : decode cX1_loseFirst 37 = .ok (.iconst 1, 1) := by decide +kernel
theorem dX1_loseFirst_38 : decode cX1_loseFirst 38 = .ok (.isub, 1) := by decide +kernel
theorem dX1_loseFirst_39 : decode cX1_loseFirst 39 = .ok (.invokestatic 22, 3) := by decide +kernel
theorem dX1_loseFirst_42 : decode cX1_loseFirst 42 = .ok (.aload_n 0, 1) := by decide +kernel
theorem dX1_loseFirst_43 : decode cX1_loseFirst 43 = .ok (.iconst 5, 1) := by decide +kernel
theorem dX1_loseFirst_44 : decode cX1_loseFirst 44 = .ok (.putfield 18, 3) := by decide +kernel
theorem dX1_loseFirst_47 : decode cX1_loseFirst 47 = .ok (.return_, 1) := by decide +kernel
theorem dX2_isName_0 : decode cX2_isName 0 = .ok (.iload_n 0, 1) := by decide +kernel
theorem dX2_isName_1 : decode cX2_isName 1 = .ok (.invokestatic 9, 3) := by decide +kernel
theorem dX2_isName_4 : decode cX2_isName 4 = .ok (.iconst 1, 1) := by decide +kernel
theorem dX2_isName_5 : decode cX2_isName 5 = .ok (.if_icmp .lt 22, 3) := by decide +kernel
theorem dX2_isName_8 : decode cX2_isName 8 = .ok (.iload_n 0, 1) := by decide +kernel
theorem dX2_isName_9 : decode cX2_isName 9 = .ok (.invokestatic 9, 3) := by decide +kernel
theorem dX2_isName_12 : decode cX2_isName 12 = .ok (.iconst 5, 1) := by decide +kernel
theorem dX2_isName_13 : decode cX2_isName 13 = .ok (.if_icmp .gt 14, 3) := by decide +kernel
theorem dX2_isName_16 : decode cX2_isName 16 = .ok (.iload_n 0, 1) := by decide +kernel
theorem dX2_isName_17 : decode cX2_isName 17 = .ok (.invokestatic 15, 3) := by decide +kernel
theorem dX2_isName_20 : decode cX2_isName 20 = .ok (.ifCond .eq 7, 3) := by decide +kernel
theorem dX2_isName_23 : decode cX2_isName 23 = .ok (.iconst 1, 1) := by decide +kernel
theorem dX2_isName_24 : decode cX2_isName 24 = .ok (.goto 4, 3) := by decide +kernel
theorem dX2_isName_27 : decode cX2_isName 27 = .ok (.iconst 0, 1) := by decide +kernel
theorem dX2_isName_28 : decode cX2_isName 28 = .ok (.ireturn, 1) := by decide +kernel
theorem dX2_isReading_0 : decode cX2_isReading 0 = .ok (.iload_n 0, 1) := by decide +kernel
theorem dX2_isReading_1 : decode cX2_isReading 1 = .ok (.ifCond .eq 10, 3) := by decide +kernel
theorem dX2_isReading_4 : decode cX2_isReading 4 = .ok (.iload_n 0, 1) := by decide +kernel
theorem dX2_isReading_5 : decode cX2_isReading 5 = .ok (.invokestatic 19, 3) := by decide +kernel
theorem dX2_isReading_8 : decode cX2_isReading 8 = .ok (.ifCond .eq 7, 3) := by decide +kernel
theorem dX2_isReading_11 : decode cX2_isReading 11 = .ok (.iconst 1, 1) := by decide +kernel
theorem dX2_isReading_12 : decode cX2_isReading 12 = .ok (.goto 4, 3) := by decide +kernel
theorem dX2_isReading_15 : decode cX2_isReading 15 = .ok (.iconst 0, 1) := by decide +kernel
theorem dX2_isReading_16 : decode cX2_isReading 16 = .ok (.ireturn, 1) := by decide +kernel
theorem dX2_hasLettersAlone_0 : decode cX2_hasLettersAlone 0 = .ok (.iload_n 0, 1) := by decide +kernel
theorem dX2_hasLettersAlone_1 : decode cX2_hasLettersAlone 1 = .ok (.istore_n 1, 1) := by decide +kernel
theorem dX2_hasLettersAlone_2 : decode cX2_hasLettersAlone 2 = .ok (.iload_n 1, 1) := by decide +kernel
theorem dX2_hasLettersAlone_3 : decode cX2_hasLettersAlone 3 = .ok (.ifCond .le 29, 3) := by decide +kernel
theorem dX2_hasLettersAlone_6 : decode cX2_hasLettersAlone 6 = .ok (.iload_n 1, 1) := by decide +kernel
theorem dX2_hasLettersAlone_7 : decode cX2_hasLettersAlone 7 = .ok (.bipush 10, 2) := by decide +kernel
theorem dX2_hasLettersAlone_9 : decode cX2_hasLettersAlone 9 = .ok (.irem, 1) := by decide +kernel
theorem dX2_hasLettersAlone_10 : decode cX2_hasLettersAlone 10 = .ok (.iconst 1, 1) := by decide +kernel
theorem dX2_hasLettersAlone_11 : decode cX2_hasLettersAlone 11 = .ok (.if_icmp .lt 11, 3) := by decide +kernel
theorem dX2_hasLettersAlone_14 : decode cX2_hasLettersAlone 14 = .ok (.iload_n 1, 1) := by decide +kernel
theorem dX2_hasLettersAlone_15 : decode cX2_hasLettersAlone 15 = .ok (.bipush 10, 2) := by decide +kernel
theorem dX2_hasLettersAlone_17 : decode cX2_hasLettersAlone 17 = .ok (.irem, 1) := by decide +kernel
theorem dX2_hasLettersAlone_18 : decode cX2_hasLettersAlone 18 = .ok (.iconst 4, 1) := by decide +kernel
theorem dX2_hasLettersAlone_19 : decode cX2_hasLettersAlone 19 = .ok (.if_icmp .le 5, 3) := by decide +kernel
theorem dX2_hasLettersAlone_22 : decode cX2_hasLettersAlone 22 = .ok (.iconst 0, 1) := by decide +kernel
theorem dX2_hasLettersAlone_23 : decode cX2_hasLettersAlone 23 = .ok (.ireturn, 1) := by decide +kernel
theorem dX2_hasLettersAlone_24 : decode cX2_hasLettersAlone 24 = .ok (.iload_n 1, 1) := by decide +kernel
theorem dX2_hasLettersAlone_25 : decode cX2_hasLettersAlone 25 = .ok (.bipush 10, 2) := by decide +kernel
theorem dX2_hasLettersAlone_27 : decode cX2_hasLettersAlone 27 = .ok (.idiv, 1) := by decide +kernel
theorem dX2_hasLettersAlone_28 : decode cX2_hasLettersAlone 28 = .ok (.istore_n 1, 1) := by decide +kernel
theorem dX2_hasLettersAlone_29 : decode cX2_hasLettersAlone 29 = .ok (.goto (-27), 3) := by decide +kernel
theorem dX2_hasLettersAlone_32 : decode cX2_hasLettersAlone 32 = .ok (.iconst 1, 1) := by decide +kernel
theorem dX2_hasLettersAlone_33 : decode cX2_hasLettersAlone 33 = .ok (.ireturn, 1) := by decide +kernel
theorem dX2_lettersIn_0 : decode cX2_lettersIn 0 = .ok (.iconst 0, 1) := by decide +kernel
theorem dX2_lettersIn_1 : decode cX2_lettersIn 1 = .ok (.istore_n 1, 1) := by decide +kernel
theorem dX2_lettersIn_2 : decode cX2_lettersIn 2 = .ok (.iload_n 0, 1) := by decide +kernel
theorem dX2_lettersIn_3 : decode cX2_lettersIn 3 = .ok (.istore_n 2, 1) := by decide +kernel
theorem dX2_lettersIn_4 : decode cX2_lettersIn 4 = .ok (.iload_n 2, 1) := by decide +kernel
theorem dX2_lettersIn_5 : decode cX2_lettersIn 5 = .ok (.ifCond .le 14, 3) := by decide +kernel
theorem dX2_lettersIn_8 : decode cX2_lettersIn 8 = .ok (.iinc 1 1, 3) := by decide +kernel
theorem dX2_lettersIn_11 : decode cX2_lettersIn 11 = .ok (.iload_n 2, 1) := by decide +kernel
theorem dX2_lettersIn_12 : decode cX2_lettersIn 12 = .ok (.bipush 10, 2) := by decide +kernel
theorem dX2_lettersIn_14 : decode cX2_lettersIn 14 = .ok (.idiv, 1) := by decide +kernel
theorem dX2_lettersIn_15 : decode cX2_lettersIn 15 = .ok (.istore_n 2, 1) := by decide +kernel
theorem dX2_lettersIn_16 : decode cX2_lettersIn 16 = .ok (.goto (-12), 3) := by decide +kernel
theorem dX2_lettersIn_19 : decode cX2_lettersIn 19 = .ok (.iload_n 1, 1) := by decide +kernel
theorem dX2_lettersIn_20 : decode cX2_lettersIn 20 = .ok (.ireturn, 1) := by decide +kernel
theorem dX2_nameOfRank_0 : decode cX2_nameOfRank 0 = .ok (.iconst 0, 1) := by decide +kernel
theorem dX2_nameOfRank_1 : decode cX2_nameOfRank 1 = .ok (.istore_n 1, 1) := by decide +kernel
theorem dX2_nameOfRank_2 : decode cX2_nameOfRank 2 = .ok (.iconst 1, 1) := by decide +kernel
theorem dX2_nameOfRank_3 : decode cX2_nameOfRank 3 = .ok (.istore_n 2, 1) := by decide +kernel
theorem dX2_nameOfRank_4 : decode cX2_nameOfRank 4 = .ok (.iload_n 0, 1) := by decide +kernel
theorem dX2_nameOfRank_5 : decode cX2_nameOfRank 5 = .ok (.istore_n 3, 1) := by decide +kernel
theorem dX2_nameOfRank_6 : decode cX2_nameOfRank 6 = .ok (.iload_n 3, 1) := by decide +kernel
theorem dX2_nameOfRank_7 : decode cX2_nameOfRank 7 = .ok (.ifCond .le 29, 3) := by decide +kernel
theorem dX2_nameOfRank_10 : decode cX2_nameOfRank 10 = .ok (.iload_n 1, 1) := by decide +kernel
theorem dX2_nameOfRank_11 : decode cX2_nameOfRank 11 = .ok (.iload_n 3, 1) := by decide +kernel
theorem dX2_nameOfRank_12 : decode cX2_nameOfRank 12 = .ok (.iconst 1, 1) := by decide +kernel
theorem dX2_nameOfRank_13 : decode cX2_nameOfRank 13 = .ok (.isub, 1) := by decide +kernel
theorem dX2_nameOfRank_14 : decode cX2_nameOfRank 14 = .ok (.iconst 4, 1) := by decide +kernel
theorem dX2_nameOfRank_15 : decode cX2_nameOfRank 15 = .ok (.irem, 1) := by decide +kernel
theorem dX2_nameOfRank_16 : decode cX2_nameOfRank 16 = .ok (.iconst 1, 1) := by decide +kernel
theorem dX2_nameOfRank_17 : decode cX2_nameOfRank 17 = .ok (.iadd, 1) := by decide +kernel
theorem dX2_nameOfRank_18 : decode cX2_nameOfRank 18 = .ok (.iload_n 2, 1) := by decide +kernel
theorem dX2_nameOfRank_19 : decode cX2_nameOfRank 19 = .ok (.imul, 1) := by decide +kernel
theorem dX2_nameOfRank_20 : decode cX2_nameOfRank 20 = .ok (.iadd, 1) := by decide +kernel
theorem dX2_nameOfRank_21 : decode cX2_nameOfRank 21 = .ok (.istore_n 1, 1) := by decide +kernel
theorem dX2_nameOfRank_22 : decode cX2_nameOfRank 22 = .ok (.iload_n 2, 1) := by decide +kernel
theorem dX2_nameOfRank_23 : decode cX2_nameOfRank 23 = .ok (.bipush 10, 2) := by decide +kernel
theorem dX2_nameOfRank_25 : decode cX2_nameOfRank 25 = .ok (.imul, 1) := by decide +kernel
theorem dX2_nameOfRank_26 : decode cX2_nameOfRank 26 = .ok (.istore_n 2, 1) := by decide +kernel
theorem dX2_nameOfRank_27 : decode cX2_nameOfRank 27 = .ok (.iload_n 3, 1) := by decide +kernel
theorem dX2_nameOfRank_28 : decode cX2_nameOfRank 28 = .ok (.iconst 1, 1) := by decide +kernel
theorem dX2_nameOfRank_29 : decode cX2_nameOfRank 29 = .ok (.isub, 1) := by decide +kernel
theorem dX2_nameOfRank_30 : decode cX2_nameOfRank 30 = .ok (.iconst 4, 1) := by decide +kernel
theorem dX2_nameOfRank_31 : decode cX2_nameOfRank 31 = .ok (.idiv, 1) := by decide +kernel
theorem dX2_nameOfRank_32 : decode cX2_nameOfRank 32 = .ok (.istore_n 3, 1) := by decide +kernel
theorem dX2_nameOfRank_33 : decode cX2_nameOfRank 33 = .ok (.goto (-27), 3) := by decide +kernel
theorem dX2_nameOfRank_36 : decode cX2_nameOfRank 36 = .ok (.iload_n 1, 1) := by decide +kernel
theorem dX2_nameOfRank_37 : decode cX2_nameOfRank 37 = .ok (.ireturn, 1) := by decide +kernel
theorem dX2_byKind_0 : decode cX2_byKind 0 = .ok (.iload_n 3, 1) := by decide +kernel
theorem dX2_byKind_1 : decode cX2_byKind 1 = .ok (.iconst 5, 1) := by decide +kernel
theorem dX2_byKind_2 : decode cX2_byKind 2 = .ok (.if_icmp .lt 10, 3) := by decide +kernel
theorem dX2_byKind_5 : decode cX2_byKind 5 = .ok (.iload_n 1, 1) := by decide +kernel
theorem dX2_byKind_6 : decode cX2_byKind 6 = .ok (.invokestatic 22, 3) := by decide +kernel
theorem dX2_byKind_9 : decode cX2_byKind 9 = .ok (.goto 4, 3) := by decide +kernel
theorem dX2_byKind_12 : decode cX2_byKind 12 = .ok (.iload_n 1, 1) := by decide +kernel
theorem dX2_byKind_13 : decode cX2_byKind 13 = .ok (.istore 4, 2) := by decide +kernel
theorem dX2_byKind_15 : decode cX2_byKind 15 = .ok (.iload_n 0, 1) := by decide +kernel
theorem dX2_byKind_16 : decode cX2_byKind 16 = .ok (.tableswitch 111 1 5 #[36, 45, 60, 67, 87], 36) := by decide +kernel
theorem dX2_byKind_52 : decode cX2_byKind 52 = .ok (.iload 4, 2) := by decide +kernel
theorem dX2_byKind_54 : decode cX2_byKind 54 = .ok (.iload_n 3, 1) := by decide +kernel
theorem dX2_byKind_55 : decode cX2_byKind 55 = .ok (.iconst 3, 1) := by decide +kernel
theorem dX2_byKind_56 : decode cX2_byKind 56 = .ok (.idiv, 1) := by decide +kernel
theorem dX2_byKind_57 : decode cX2_byKind 57 = .ok (.invokestatic 25, 3) := by decide +kernel
theorem dX2_byKind_60 : decode cX2_byKind 60 = .ok (.ireturn, 1) := by decide +kernel
theorem dX2_byKind_61 : decode cX2_byKind 61 = .ok (.iload_n 2, 1) := by decide +kernel
theorem dX2_byKind_62 : decode cX2_byKind 62 = .ok (.ifCond .ne 11, 3) := by decide +kernel
theorem dX2_byKind_65 : decode cX2_byKind 65 = .ok (.iload 4, 2) := by decide +kernel
theorem dX2_byKind_67 : decode cX2_byKind 67 = .ok (.invokestatic 29, 3) := by decide +kernel
theorem dX2_byKind_70 : decode cX2_byKind 70 = .ok (.goto 5, 3) := by decide +kernel
theorem dX2_byKind_73 : decode cX2_byKind 73 = .ok (.iload 4, 2) := by decide +kernel
theorem dX2_byKind_75 : decode cX2_byKind 75 = .ok (.ireturn, 1) := by decide +kernel
theorem dX2_byKind_76 : decode cX2_byKind 76 = .ok (.iload 4, 2) := by decide +kernel
theorem dX2_byKind_78 : decode cX2_byKind 78 = .ok (.iload_n 2, 1) := by decide +kernel
theorem dX2_byKind_79 : decode cX2_byKind 79 = .ok (.invokestatic 32, 3) := by decide +kernel
theorem dX2_byKind_82 : decode cX2_byKind 82 = .ok (.ireturn, 1) := by decide +kernel
theorem dX2_byKind_83 : decode cX2_byKind 83 = .ok (.iload_n 2, 1) := by decide +kernel
theorem dX2_byKind_84 : decode cX2_byKind 84 = .ok (.iconst 2, 1) := by decide +kernel
theorem dX2_byKind_85 : decode cX2_byKind 85 = .ok (.irem, 1) := by decide +kernel
theorem dX2_byKind_86 : decode cX2_byKind 86 = .ok (.iconst 1, 1) := by decide +kernel
theorem dX2_byKind_87 : decode cX2_byKind 87 = .ok (.if_icmp .ne 7, 3) := by decide +kernel
theorem dX2_byKind_90 : decode cX2_byKind 90 = .ok (.iconst 0, 1) := by decide +kernel
theorem dX2_byKind_91 : decode cX2_byKind 91 = .ok (.goto 11, 3) := by decide +kernel
theorem dX2_byKind_94 : decode cX2_byKind 94 = .ok (.iload 4, 2) := by decide +kernel
theorem dX2_byKind_96 : decode cX2_byKind 96 = .ok (.iload_n 3, 1) := by decide +kernel
theorem dX2_byKind_97 : decode cX2_byKind 97 = .ok (.iconst 3, 1) := by decide +kernel
theorem dX2_byKind_98 : decode cX2_byKind 98 = .ok (.idiv, 1) := by decide +kernel
theorem dX2_byKind_99 : decode cX2_byKind 99 = .ok (.invokestatic 25, 3) := by decide +kernel
theorem dX2_byKind_102 : decode cX2_byKind 102 = .ok (.ireturn, 1) := by decide +kernel
theorem dX2_byKind_103 : decode cX2_byKind 103 = .ok (.iload_n 2, 1) := by decide +kernel
theorem dX2_byKind_104 : decode cX2_byKind 104 = .ok (.iconst 4, 1) := by decide +kernel
theorem dX2_byKind_105 : decode cX2_byKind 105 = .ok (.if_icmp .lt 15, 3) := by decide +kernel
theorem dX2_byKind_108 : decode cX2_byKind 108 = .ok (.iload 4, 2) := by decide +kernel
theorem dX2_byKind_110 : decode cX2_byKind 110 = .ok (.iload_n 2, 1) := by decide +kernel
theorem dX2_byKind_111 : decode cX2_byKind 111 = .ok (.invokestatic 32, 3) := by decide +kernel
theorem dX2_byKind_114 : decode cX2_byKind 114 = .ok (.invokestatic 35, 3) := by decide +kernel
theorem dX2_byKind_117 : decode cX2_byKind 117 = .ok (.goto 9, 3) := by decide +kernel
theorem dX2_byKind_120 : decode cX2_byKind 120 = .ok (.iload 4, 2) := by decide +kernel
theorem dX2_byKind_122 : decode cX2_byKind 122 = .ok (.iload_n 2, 1) := by decide +kernel
theorem dX2_byKind_123 : decode cX2_byKind 123 = .ok (.invokestatic 32, 3) := by decide +kernel
theorem dX2_byKind_126 : decode cX2_byKind 126 = .ok (.ireturn, 1) := by decide +kernel
theorem dX2_byKind_127 : decode cX2_byKind 127 = .ok (.iload 4, 2) := by decide +kernel
theorem dX2_byKind_129 : decode cX2_byKind 129 = .ok (.ireturn, 1) := by decide +kernel
theorem dX2_cut_0 : decode cX2_cut 0 = .ok (.iload_n 0, 1) := by decide +kernel
theorem dX2_cut_1 : decode cX2_cut 1 = .ok (.istore_n 2, 1) := by decide +kernel
theorem dX2_cut_2 : decode cX2_cut 2 = .ok (.iconst 0, 1) := by decide +kernel
theorem dX2_cut_3 : decode cX2_cut 3 = .ok (.istore_n 3, 1) := by decide +kernel
theorem dX2_cut_4 : decode cX2_cut 4 = .ok (.iload_n 3, 1) := by decide +kernel
theorem dX2_cut_5 : decode cX2_cut 5 = .ok (.iload_n 1, 1) := by decide +kernel
theorem dX2_cut_6 : decode cX2_cut 6 = .ok (.if_icmp .ge 14, 3) := by decide +kernel
theorem dX2_cut_9 : decode cX2_cut 9 = .ok (.iload_n 2, 1) := by decide +kernel
theorem dX2_cut_10 : decode cX2_cut 10 = .ok (.bipush 10, 2) := by decide +kernel
theorem dX2_cut_12 : decode cX2_cut 12 = .ok (.idiv, 1) := by decide +kernel
theorem dX2_cut_13 : decode cX2_cut 13 = .ok (.istore_n 2, 1) := by decide +kernel
theorem dX2_cut_14 : decode cX2_cut 14 = .ok (.iinc 3 1, 3) := by decide +kernel
theorem dX2_cut_17 : decode cX2_cut 17 = .ok (.goto (-13), 3) := by decide +kernel
theorem dX2_cut_20 : decode cX2_cut 20 = .ok (.iload_n 2, 1) := by decide +kernel
theorem dX2_cut_21 : decode cX2_cut 21 = .ok (.ireturn, 1) := by decide +kernel
theorem dX2_turned_0 : decode cX2_turned 0 = .ok (.iload_n 0, 1) := by decide +kernel
theorem dX2_turned_1 : decode cX2_turned 1 = .ok (.istore_n 2, 1) := by decide +kernel
theorem dX2_turned_2 : decode cX2_turned 2 = .ok (.iload_n 0, 1) := by decide +kernel
theorem dX2_turned_3 : decode cX2_turned 3 = .ok (.invokestatic 38, 3) := by decide +kernel
theorem dX2_turned_6 : decode cX2_turned 6 = .ok (.istore_n 3, 1) := by decide +kernel
theorem dX2_turned_7 : decode cX2_turned 7 = .ok (.iconst 0, 1) := by decide +kernel
theorem dX2_turned_8 : decode cX2_turned 8 = .ok (.istore 4, 2) := by decide +kernel
theorem dX2_turned_10 : decode cX2_turned 10 = .ok (.iload 4, 2) := by decide +kernel
theorem dX2_turned_12 : decode cX2_turned 12 = .ok (.iload_n 1, 1) := by decide +kernel
theorem dX2_turned_13 : decode cX2_turned 13 = .ok (.if_icmp .ge 24, 3) := by decide +kernel
theorem dX2_turned_16 : decode cX2_turned 16 = .ok (.iload_n 3, 1) := by decide +kernel
theorem dX2_turned_17 : decode cX2_turned 17 = .ok (.ifCond .le 20, 3) := by decide +kernel
theorem dX2_turned_20 : decode cX2_turned 20 = .ok (.iload_n 2, 1) := by decide +kernel
theorem dX2_turned_21 : decode cX2_turned 21 = .ok (.iload_n 3, 1) := by decide +kernel
theorem dX2_turned_22 : decode cX2_turned 22 = .ok (.irem, 1) := by decide +kernel
theorem dX2_turned_23 : decode cX2_turned 23 = .ok (.bipush 10, 2) := by decide +kernel
theorem dX2_turned_25 : decode cX2_turned 25 = .ok (.imul, 1) := by decide +kernel
theorem dX2_turned_26 : decode cX2_turned 26 = .ok (.iload_n 2, 1) := by decide +kernel
theorem dX2_turned_27 : decode cX2_turned 27 = .ok (.iload_n 3, 1) := by decide +kernel
theorem dX2_turned_28 : decode cX2_turned 28 = .ok (.idiv, 1) := by decide +kernel
theorem dX2_turned_29 : decode cX2_turned 29 = .ok (.iadd, 1) := by decide +kernel
theorem dX2_turned_30 : decode cX2_turned 30 = .ok (.istore_n 2, 1) := by decide +kernel
theorem dX2_turned_31 : decode cX2_turned 31 = .ok (.iinc 4 1, 3) := by decide +kernel
theorem dX2_turned_34 : decode cX2_turned 34 = .ok (.goto (-24), 3) := by decide +kernel
theorem dX2_turned_37 : decode cX2_turned 37 = .ok (.iload_n 2, 1) := by decide +kernel
theorem dX2_turned_38 : decode cX2_turned 38 = .ok (.ireturn, 1) := by decide +kernel
theorem dX2_withoutDoubles_0 : decode cX2_withoutDoubles 0 = .ok (.iconst 0, 1) := by decide +kernel
theorem dX2_withoutDoubles_1 : decode cX2_withoutDoubles 1 = .ok (.istore_n 1, 1) := by decide +kernel
theorem dX2_withoutDoubles_2 : decode cX2_withoutDoubles 2 = .ok (.iconst 1, 1) := by decide +kernel
theorem dX2_withoutDoubles_3 : decode cX2_withoutDoubles 3 = .ok (.istore_n 2, 1) := by decide +kernel
theorem dX2_withoutDoubles_4 : decode cX2_withoutDoubles 4 = .ok (.iload_n 0, 1) := by decide +kernel
theorem dX2_withoutDoubles_5 : decode cX2_withoutDoubles 5 = .ok (.istore_n 3, 1) := by decide +kernel
theorem dX2_withoutDoubles_6 : decode cX2_withoutDoubles 6 = .ok (.iload_n 3, 1) := by decide +kernel
theorem dX2_withoutDoubles_7 : decode cX2_withoutDoubles 7 = .ok (.ifCond .le 41, 3) := by decide +kernel
theorem dX2_withoutDoubles_10 : decode cX2_withoutDoubles 10 = .ok (.iload_n 3, 1) := by decide +kernel
theorem dX2_withoutDoubles_11 : decode cX2_withoutDoubles 11 = .ok (.bipush 10, 2) := by decide +kernel
theorem dX2_withoutDoubles_13 : decode cX2_withoutDoubles 13 = .ok (.irem, 1) := by decide +kernel
theorem dX2_withoutDoubles_14 : decode cX2_withoutDoubles 14 = .ok (.istore 4, 2) := by decide +kernel
theorem dX2_withoutDoubles_16 : decode cX2_withoutDoubles 16 = .ok (.iload 4, 2) := by decide +kernel
theorem dX2_withoutDoubles_18 : decode cX2_withoutDoubles 18 = .ok (.iload_n 3, 1) := by decide +kernel
theorem dX2_withoutDoubles_19 : decode cX2_withoutDoubles 19 = .ok (.bipush 10, 2) := by decide +kernel
theorem dX2_withoutDoubles_21 : decode cX2_withoutDoubles 21 = .ok (.idiv, 1) := by decide +kernel
theorem dX2_withoutDoubles_22 : decode cX2_withoutDoubles 22 = .ok (.bipush 10, 2) := by decide +kernel
theorem dX2_withoutDoubles_24 : decode cX2_withoutDoubles 24 = .ok (.irem, 1) := by decide +kernel
theorem dX2_withoutDoubles_25 : decode cX2_withoutDoubles 25 = .ok (.if_icmp .eq 15, 3) := by decide +kernel
theorem dX2_withoutDoubles_28 : decode cX2_withoutDoubles 28 = .ok (.iload_n 1, 1) := by decide +kernel
theorem dX2_withoutDoubles_29 : decode cX2_withoutDoubles 29 = .ok (.iload 4, 2) := by decide +kernel
theorem dX2_withoutDoubles_31 : decode cX2_withoutDoubles 31 = .ok (.iload_n 2, 1) := by decide +kernel
theorem dX2_withoutDoubles_32 : decode cX2_withoutDoubles 32 = .ok (.imul, 1) := by decide +kernel
theorem dX2_withoutDoubles_33 : decode cX2_withoutDoubles 33 = .ok (.iadd, 1) := by decide +kernel
theorem dX2_withoutDoubles_34 : decode cX2_withoutDoubles 34 = .ok (.istore_n 1, 1) := by decide +kernel
theorem dX2_withoutDoubles_35 : decode cX2_withoutDoubles 35 = .ok (.iload_n 2, 1) := by decide +kernel
theorem dX2_withoutDoubles_36 : decode cX2_withoutDoubles 36 = .ok (.bipush 10, 2) := by decide +kernel
theorem dX2_withoutDoubles_38 : decode cX2_withoutDoubles 38 = .ok (.imul, 1) := by decide +kernel
theorem dX2_withoutDoubles_39 : decode cX2_withoutDoubles 39 = .ok (.istore_n 2, 1) := by decide +kernel
theorem dX2_withoutDoubles_40 : decode cX2_withoutDoubles 40 = .ok (.iload_n 3, 1) := by decide +kernel
theorem dX2_withoutDoubles_41 : decode cX2_withoutDoubles 41 = .ok (.bipush 10, 2) := by decide +kernel
theorem dX2_withoutDoubles_43 : decode cX2_withoutDoubles 43 = .ok (.idiv, 1) := by decide +kernel
theorem dX2_withoutDoubles_44 : decode cX2_withoutDoubles 44 = .ok (.istore_n 3, 1) := by decide +kernel
theorem dX2_withoutDoubles_45 : decode cX2_withoutDoubles 45 = .ok (.goto (-39), 3) := by decide +kernel
theorem dX2_withoutDoubles_48 : decode cX2_withoutDoubles 48 = .ok (.iload_n 1, 1) := by decide +kernel
theorem dX2_withoutDoubles_49 : decode cX2_withoutDoubles 49 = .ok (.ireturn, 1) := by decide +kernel
theorem dX2_turnedRound_0 : decode cX2_turnedRound 0 = .ok (.iconst 0, 1) := by decide +kernel
theorem dX2_turnedRound_1 : decode cX2_turnedRound 1 = .ok (.istore_n 1, 1) := by decide +kernel
theorem dX2_turnedRound_2 : decode cX2_turnedRound 2 = .ok (.iload_n 0, 1) := by decide +kernel
theorem dX2_turnedRound_3 : decode cX2_turnedRound 3 = .ok (.istore_n 2, 1) := by decide +kernel
theorem dX2_turnedRound_4 : decode cX2_turnedRound 4 = .ok (.iload_n 2, 1) := by decide +kernel
theorem dX2_turnedRound_5 : decode cX2_turnedRound 5 = .ok (.ifCond .le 21, 3) := by decide +kernel
theorem dX2_turnedRound_8 : decode cX2_turnedRound 8 = .ok (.iload_n 1, 1) := by decide +kernel
theorem dX2_turnedRound_9 : decode cX2_turnedRound 9 = .ok (.bipush 10, 2) := by decide +kernel
theorem dX2_turnedRound_11 : decode cX2_turnedRound 11 = .ok (.imul, 1) := by decide +kernel
theorem dX2_turnedRound_12 : decode cX2_turnedRound 12 = .ok (.iload_n 2, 1) := by decide +kernel
theorem dX2_turnedRound_13 : decode cX2_turnedRound 13 = .ok (.bipush 10, 2) := by decide +kernel
theorem dX2_turnedRound_15 : decode cX2_turnedRound 15 = .ok (.irem, 1) := by decide +kernel
theorem dX2_turnedRound_16 : decode cX2_turnedRound 16 = .ok (.iadd, 1) := by decide +kernel
theorem dX2_turnedRound_17 : decode cX2_turnedRound 17 = .ok (.istore_n 1, 1) := by decide +kernel
theorem dX2_turnedRound_18 : decode cX2_turnedRound 18 = .ok (.iload_n 2, 1) := by decide +kernel
theorem dX2_turnedRound_19 : decode cX2_turnedRound 19 = .ok (.bipush 10, 2) := by decide +kernel
theorem dX2_turnedRound_21 : decode cX2_turnedRound 21 = .ok (.idiv, 1) := by decide +kernel
theorem dX2_turnedRound_22 : decode cX2_turnedRound 22 = .ok (.istore_n 2, 1) := by decide +kernel
theorem dX2_turnedRound_23 : decode cX2_turnedRound 23 = .ok (.goto (-19), 3) := by decide +kernel
theorem dX2_turnedRound_26 : decode cX2_turnedRound 26 = .ok (.iload_n 1, 1) := by decide +kernel
theorem dX2_turnedRound_27 : decode cX2_turnedRound 27 = .ok (.ireturn, 1) := by decide +kernel
theorem dX2_raised_0 : decode cX2_raised 0 = .ok (.iconst 0, 1) := by decide +kernel
theorem dX2_raised_1 : decode cX2_raised 1 = .ok (.istore_n 1, 1) := by decide +kernel
theorem dX2_raised_2 : decode cX2_raised 2 = .ok (.iconst 1, 1) := by decide +kernel
theorem dX2_raised_3 : decode cX2_raised 3 = .ok (.istore_n 2, 1) := by decide +kernel
theorem dX2_raised_4 : decode cX2_raised 4 = .ok (.iload_n 0, 1) := by decide +kernel
theorem dX2_raised_5 : decode cX2_raised 5 = .ok (.istore_n 3, 1) := by decide +kernel
theorem dX2_raised_6 : decode cX2_raised 6 = .ok (.iload_n 3, 1) := by decide +kernel
theorem dX2_raised_7 : decode cX2_raised 7 = .ok (.ifCond .le 29, 3) := by decide +kernel
theorem dX2_raised_10 : decode cX2_raised 10 = .ok (.iload_n 1, 1) := by decide +kernel
theorem dX2_raised_11 : decode cX2_raised 11 = .ok (.iload_n 3, 1) := by decide +kernel
theorem dX2_raised_12 : decode cX2_raised 12 = .ok (.bipush 10, 2) := by decide +kernel
theorem dX2_raised_14 : decode cX2_raised 14 = .ok (.irem, 1) := by decide +kernel
theorem dX2_raised_15 : decode cX2_raised 15 = .ok (.iconst 4, 1) := by decide +kernel
theorem dX2_raised_16 : decode cX2_raised 16 = .ok (.irem, 1) := by decide +kernel
theorem dX2_raised_17 : decode cX2_raised 17 = .ok (.iconst 1, 1) := by decide +kernel
theorem dX2_raised_18 : decode cX2_raised 18 = .ok (.iadd, 1) := by decide +kernel
theorem dX2_raised_19 : decode cX2_raised 19 = .ok (.iload_n 2, 1) := by decide +kernel
theorem dX2_raised_20 : decode cX2_raised 20 = .ok (.imul, 1) := by decide +kernel
theorem dX2_raised_21 : decode cX2_raised 21 = .ok (.iadd, 1) := by decide +kernel
theorem dX2_raised_22 : decode cX2_raised 22 = .ok (.istore_n 1, 1) := by decide +kernel
theorem dX2_raised_23 : decode cX2_raised 23 = .ok (.iload_n 2, 1) := by decide +kernel
theorem dX2_raised_24 : decode cX2_raised 24 = .ok (.bipush 10, 2) := by decide +kernel
theorem dX2_raised_26 : decode cX2_raised 26 = .ok (.imul, 1) := by decide +kernel
theorem dX2_raised_27 : decode cX2_raised 27 = .ok (.istore_n 2, 1) := by decide +kernel
theorem dX2_raised_28 : decode cX2_raised 28 = .ok (.iload_n 3, 1) := by decide +kernel
theorem dX2_raised_29 : decode cX2_raised 29 = .ok (.bipush 10, 2) := by decide +kernel
theorem dX2_raised_31 : decode cX2_raised 31 = .ok (.idiv, 1) := by decide +kernel
theorem dX2_raised_32 : decode cX2_raised 32 = .ok (.istore_n 3, 1) := by decide +kernel
theorem dX2_raised_33 : decode cX2_raised 33 = .ok (.goto (-27), 3) := by decide +kernel
theorem dX2_raised_36 : decode cX2_raised 36 = .ok (.iload_n 1, 1) := by decide +kernel
theorem dX2_raised_37 : decode cX2_raised 37 = .ok (.ireturn, 1) := by decide +kernel
theorem dX2_placeOfFirst_0 : decode cX2_placeOfFirst 0 = .ok (.iconst 1, 1) := by decide +kernel
theorem dX2_placeOfFirst_1 : decode cX2_placeOfFirst 1 = .ok (.istore_n 1, 1) := by decide +kernel
theorem dX2_placeOfFirst_2 : decode cX2_placeOfFirst 2 = .ok (.iload_n 0, 1) := by decide +kernel
theorem dX2_placeOfFirst_3 : decode cX2_placeOfFirst 3 = .ok (.bipush 10, 2) := by decide +kernel
theorem dX2_placeOfFirst_5 : decode cX2_placeOfFirst 5 = .ok (.idiv, 1) := by decide +kernel
theorem dX2_placeOfFirst_6 : decode cX2_placeOfFirst 6 = .ok (.istore_n 2, 1) := by decide +kernel
theorem dX2_placeOfFirst_7 : decode cX2_placeOfFirst 7 = .ok (.iload_n 2, 1) := by decide +kernel
theorem dX2_placeOfFirst_8 : decode cX2_placeOfFirst 8 = .ok (.ifCond .le 16, 3) := by decide +kernel
theorem dX2_placeOfFirst_11 : decode cX2_placeOfFirst 11 = .ok (.iload_n 1, 1) := by decide +kernel
theorem dX2_placeOfFirst_12 : decode cX2_placeOfFirst 12 = .ok (.bipush 10, 2) := by decide +kernel
theorem dX2_placeOfFirst_14 : decode cX2_placeOfFirst 14 = .ok (.imul, 1) := by decide +kernel
theorem dX2_placeOfFirst_15 : decode cX2_placeOfFirst 15 = .ok (.istore_n 1, 1) := by decide +kernel
theorem dX2_placeOfFirst_16 : decode cX2_placeOfFirst 16 = .ok (.iload_n 2, 1) := by decide +kernel
theorem dX2_placeOfFirst_17 : decode cX2_placeOfFirst 17 = .ok (.bipush 10, 2) := by decide +kernel
theorem dX2_placeOfFirst_19 : decode cX2_placeOfFirst 19 = .ok (.idiv, 1) := by decide +kernel
theorem dX2_placeOfFirst_20 : decode cX2_placeOfFirst 20 = .ok (.istore_n 2, 1) := by decide +kernel
theorem dX2_placeOfFirst_21 : decode cX2_placeOfFirst 21 = .ok (.goto (-14), 3) := by decide +kernel
theorem dX2_placeOfFirst_24 : decode cX2_placeOfFirst 24 = .ok (.iload_n 1, 1) := by decide +kernel
theorem dX2_placeOfFirst_25 : decode cX2_placeOfFirst 25 = .ok (.ireturn, 1) := by decide +kernel
theorem dX2_padded_0 : decode cX2_padded 0 = .ok (.iload_n 0, 1) := by decide +kernel
theorem dX2_padded_1 : decode cX2_padded 1 = .ok (.istore_n 1, 1) := by decide +kernel
theorem dX2_padded_2 : decode cX2_padded 2 = .ok (.iload_n 0, 1) := by decide +kernel
theorem dX2_padded_3 : decode cX2_padded 3 = .ok (.invokestatic 9, 3) := by decide +kernel
theorem dX2_padded_6 : decode cX2_padded 6 = .ok (.istore_n 2, 1) := by decide +kernel
theorem dX2_padded_7 : decode cX2_padded 7 = .ok (.iload_n 2, 1) := by decide +kernel
theorem dX2_padded_8 : decode cX2_padded 8 = .ok (.iconst 5, 1) := by decide +kernel
theorem dX2_padded_9 : decode cX2_padded 9 = .ok (.if_icmp .ge 14, 3) := by decide +kernel
theorem dX2_padded_12 : decode cX2_padded 12 = .ok (.iload_n 1, 1) := by decide +kernel
theorem dX2_padded_13 : decode cX2_padded 13 = .ok (.bipush 10, 2) := by decide +kernel
theorem dX2_padded_15 : decode cX2_padded 15 = .ok (.imul, 1) := by decide +kernel
theorem dX2_padded_16 : decode cX2_padded 16 = .ok (.istore_n 1, 1) := by decide +kernel
theorem dX2_padded_17 : decode cX2_padded 17 = .ok (.iinc 2 1, 3) := by decide +kernel
theorem dX2_padded_20 : decode cX2_padded 20 = .ok (.goto (-13), 3) := by decide +kernel
theorem dX2_padded_23 : decode cX2_padded 23 = .ok (.iload_n 1, 1) := by decide +kernel
theorem dX2_padded_24 : decode cX2_padded 24 = .ok (.ireturn, 1) := by decide +kernel
theorem dX2_unlikePlaces_0 : decode cX2_unlikePlaces 0 = .ok (.iconst 0, 1) := by decide +kernel
theorem dX2_unlikePlaces_1 : decode cX2_unlikePlaces 1 = .ok (.istore_n 2, 1) := by decide +kernel
theorem dX2_unlikePlaces_2 : decode cX2_unlikePlaces 2 = .ok (.iload_n 0, 1) := by decide +kernel
theorem dX2_unlikePlaces_3 : decode cX2_unlikePlaces 3 = .ok (.invokestatic 41, 3) := by decide +kernel
theorem dX2_unlikePlaces_6 : decode cX2_unlikePlaces 6 = .ok (.istore_n 3, 1) := by decide +kernel
theorem dX2_unlikePlaces_7 : decode cX2_unlikePlaces 7 = .ok (.iload_n 1, 1) := by decide +kernel
theorem dX2_unlikePlaces_8 : decode cX2_unlikePlaces 8 = .ok (.invokestatic 41, 3) := by decide +kernel
theorem dX2_unlikePlaces_11 : decode cX2_unlikePlaces 11 = .ok (.istore 4, 2) := by decide +kernel
theorem dX2_unlikePlaces_13 : decode cX2_unlikePlaces 13 = .ok (.iconst 0, 1) := by decide +kernel
theorem dX2_unlikePlaces_14 : decode cX2_unlikePlaces 14 = .ok (.istore 5, 2) := by decide +kernel
theorem dX2_unlikePlaces_16 : decode cX2_unlikePlaces 16 = .ok (.iload 5, 2) := by decide +kernel
theorem dX2_unlikePlaces_18 : decode cX2_unlikePlaces 18 = .ok (.iconst 5, 1) := by decide +kernel
theorem dX2_unlikePlaces_19 : decode cX2_unlikePlaces 19 = .ok (.if_icmp .ge 36, 3) := by decide +kernel
theorem dX2_unlikePlaces_22 : decode cX2_unlikePlaces 22 = .ok (.iload_n 3, 1) := by decide +kernel
theorem dX2_unlikePlaces_23 : decode cX2_unlikePlaces 23 = .ok (.bipush 10, 2) := by decide +kernel
theorem dX2_unlikePlaces_25 : decode cX2_unlikePlaces 25 = .ok (.irem, 1) := by decide +kernel
theorem dX2_unlikePlaces_26 : decode cX2_unlikePlaces 26 = .ok (.iload 4, 2) := by decide +kernel
theorem dX2_unlikePlaces_28 : decode cX2_unlikePlaces 28 = .ok (.bipush 10, 2) := by decide +kernel
theorem dX2_unlikePlaces_30 : decode cX2_unlikePlaces 30 = .ok (.irem, 1) := by decide +kernel
theorem dX2_unlikePlaces_31 : decode cX2_unlikePlaces 31 = .ok (.if_icmp .eq 6, 3) := by decide +kernel
theorem dX2_unlikePlaces_34 : decode cX2_unlikePlaces 34 = .ok (.iinc 2 1, 3) := by decide +kernel
theorem dX2_unlikePlaces_37 : decode cX2_unlikePlaces 37 = .ok (.iload_n 3, 1) := by decide +kernel
theorem dX2_unlikePlaces_38 : decode cX2_unlikePlaces 38 = .ok (.bipush 10, 2) := by decide +kernel
theorem dX2_unlikePlaces_40 : decode cX2_unlikePlaces 40 = .ok (.idiv, 1) := by decide +kernel
theorem dX2_unlikePlaces_41 : decode cX2_unlikePlaces 41 = .ok (.istore_n 3, 1) := by decide +kernel
theorem dX2_unlikePlaces_42 : decode cX2_unlikePlaces 42 = .ok (.iload 4, 2) := by decide +kernel
theorem dX2_unlikePlaces_44 : decode cX2_unlikePlaces 44 = .ok (.bipush 10, 2) := by decide +kernel
theorem dX2_unlikePlaces_46 : decode cX2_unlikePlaces 46 = .ok (.idiv, 1) := by decide +kernel
theorem dX2_unlikePlaces_47 : decode cX2_unlikePlaces 47 = .ok (.istore 4, 2) := by decide +kernel
theorem dX2_unlikePlaces_49 : decode cX2_unlikePlaces 49 = .ok (.iinc 5 1, 3) := by decide +kernel
theorem dX2_unlikePlaces_52 : decode cX2_unlikePlaces 52 = .ok (.goto (-36), 3) := by decide +kernel
theorem dX2_unlikePlaces_55 : decode cX2_unlikePlaces 55 = .ok (.iload_n 2, 1) := by decide +kernel
theorem dX2_unlikePlaces_56 : decode cX2_unlikePlaces 56 = .ok (.ireturn, 1) := by decide +kernel
theorem dX2_together_0 : decode cX2_together 0 = .ok (.iconst 0, 1) := by decide +kernel
theorem dX2_together_1 : decode cX2_together 1 = .ok (.istore_n 2, 1) := by decide +kernel
theorem dX2_together_2 : decode cX2_together 2 = .ok (.iconst 1, 1) := by decide +kernel
theorem dX2_together_3 : decode cX2_together 3 = .ok (.istore_n 3, 1) := by decide +kernel
theorem dX2_together_4 : decode cX2_together 4 = .ok (.iload_n 0, 1) := by decide +kernel
theorem dX2_together_5 : decode cX2_together 5 = .ok (.invokestatic 41, 3) := by decide +kernel
theorem dX2_together_8 : decode cX2_together 8 = .ok (.istore 4, 2) := by decide +kernel
theorem dX2_together_10 : decode cX2_together 10 = .ok (.iload_n 1, 1) := by decide +kernel
theorem dX2_together_11 : decode cX2_together 11 = .ok (.invokestatic 41, 3) := by decide +kernel
theorem dX2_together_14 : decode cX2_together 14 = .ok (.istore 5, 2) := by decide +kernel
theorem dX2_together_16 : decode cX2_together 16 = .ok (.iconst 0, 1) := by decide +kernel
theorem dX2_together_17 : decode cX2_together 17 = .ok (.istore 6, 2) := by decide +kernel
theorem dX2_together_19 : decode cX2_together 19 = .ok (.iload 6, 2) := by decide +kernel
theorem dX2_together_21 : decode cX2_together 21 = .ok (.iconst 5, 1) := by decide +kernel
theorem dX2_together_22 : decode cX2_together 22 = .ok (.if_icmp .ge 55, 3) := by decide +kernel
theorem dX2_together_25 : decode cX2_together 25 = .ok (.iload 4, 2) := by decide +kernel
theorem dX2_together_27 : decode cX2_together 27 = .ok (.bipush 10, 2) := by decide +kernel
theorem dX2_together_29 : decode cX2_together 29 = .ok (.irem, 1) := by decide +kernel
theorem dX2_together_30 : decode cX2_together 30 = .ok (.iload 5, 2) := by decide +kernel
theorem dX2_together_32 : decode cX2_together 32 = .ok (.bipush 10, 2) := by decide +kernel
theorem dX2_together_34 : decode cX2_together 34 = .ok (.irem, 1) := by decide +kernel
theorem dX2_together_35 : decode cX2_together 35 = .ok (.invokestatic 44, 3) := by decide +kernel
theorem dX2_together_38 : decode cX2_together 38 = .ok (.istore 7, 2) := by decide +kernel
theorem dX2_together_40 : decode cX2_together 40 = .ok (.iload 7, 2) := by decide +kernel
theorem dX2_together_42 : decode cX2_together 42 = .ok (.ifCond .le 15, 3) := by decide +kernel
theorem dX2_together_45 : decode cX2_together 45 = .ok (.iload_n 2, 1) := by decide +kernel
theorem dX2_together_46 : decode cX2_together 46 = .ok (.iload 7, 2) := by decide +kernel
theorem dX2_together_48 : decode cX2_together 48 = .ok (.iload_n 3, 1) := by decide +kernel
theorem dX2_together_49 : decode cX2_together 49 = .ok (.imul, 1) := by decide +kernel
theorem dX2_together_50 : decode cX2_together 50 = .ok (.iadd, 1) := by decide +kernel
theorem dX2_together_51 : decode cX2_together 51 = .ok (.istore_n 2, 1) := by decide +kernel
theorem dX2_together_52 : decode cX2_together 52 = .ok (.iload_n 3, 1) := by decide +kernel
theorem dX2_together_53 : decode cX2_together 53 = .ok (.bipush 10, 2) := by decide +kernel
theorem dX2_together_55 : decode cX2_together 55 = .ok (.imul, 1) := by decide +kernel
theorem dX2_together_56 : decode cX2_together 56 = .ok (.istore_n 3, 1) := by decide +kernel
theorem dX2_together_57 : decode cX2_together 57 = .ok (.iload 4, 2) := by decide +kernel
theorem dX2_together_59 : decode cX2_together 59 = .ok (.bipush 10, 2) := by decide +kernel
theorem dX2_together_61 : decode cX2_together 61 = .ok (.idiv, 1) := by decide +kernel
theorem dX2_together_62 : decode cX2_together 62 = .ok (.istore 4, 2) := by decide +kernel
theorem dX2_together_64 : decode cX2_together 64 = .ok (.iload 5, 2) := by decide +kernel
theorem dX2_together_66 : decode cX2_together 66 = .ok (.bipush 10, 2) := by decide +kernel
theorem dX2_together_68 : decode cX2_together 68 = .ok (.idiv, 1) := by decide +kernel
theorem dX2_together_69 : decode cX2_together 69 = .ok (.istore 5, 2) := by decide +kernel
theorem dX2_together_71 : decode cX2_together 71 = .ok (.iinc 6 1, 3) := by decide +kernel
theorem dX2_together_74 : decode cX2_together 74 = .ok (.goto (-55), 3) := by decide +kernel
theorem dX2_together_77 : decode cX2_together 77 = .ok (.iload_n 2, 1) := by decide +kernel
theorem dX2_together_78 : decode cX2_together 78 = .ok (.ireturn, 1) := by decide +kernel
theorem dX3_init_0 : decode cX3_init 0 = .ok (.aload_n 0, 1) := by decide +kernel
theorem dX3_init_1 : decode cX3_init 1 = .ok (.invokespecial 3, 3) := by decide +kernel
theorem dX3_init_4 : decode cX3_init 4 = .ok (.aload_n 0, 1) := by decide +kernel
theorem dX3_init_5 : decode cX3_init 5 = .ok (.bipush 36, 2) := by decide +kernel
theorem dX3_init_7 : decode cX3_init 7 = .ok (.newarray .int, 2) := by decide +kernel
theorem dX3_init_9 : decode cX3_init 9 = .ok (.putfield 9, 3) := by decide +kernel
theorem dX3_init_12 : decode cX3_init 12 = .ok (.aload_n 0, 1) := by decide +kernel
theorem dX3_init_13 : decode cX3_init 13 = .ok (.bipush 6, 2) := by decide +kernel
theorem dX3_init_15 : decode cX3_init 15 = .ok (.newarray .int, 2) := by decide +kernel
theorem dX3_init_17 : decode cX3_init 17 = .ok (.putfield 15, 3) := by decide +kernel
theorem dX3_init_20 : decode cX3_init 20 = .ok (.aload_n 0, 1) := by decide +kernel
theorem dX3_init_21 : decode cX3_init 21 = .ok (.bipush 6, 2) := by decide +kernel
theorem dX3_init_23 : decode cX3_init 23 = .ok (.newarray .int, 2) := by decide +kernel
theorem dX3_init_25 : decode cX3_init 25 = .ok (.putfield 18, 3) := by decide +kernel
theorem dX3_init_28 : decode cX3_init 28 = .ok (.aload_n 0, 1) := by decide +kernel
theorem dX3_init_29 : decode cX3_init 29 = .ok (.iconst 0, 1) := by decide +kernel
theorem dX3_init_30 : decode cX3_init 30 = .ok (.putfield 21, 3) := by decide +kernel
theorem dX3_init_33 : decode cX3_init 33 = .ok (.aload_n 0, 1) := by decide +kernel
theorem dX3_init_34 : decode cX3_init 34 = .ok (.iconst 0, 1) := by decide +kernel
theorem dX3_init_35 : decode cX3_init 35 = .ok (.putfield 25, 3) := by decide +kernel
theorem dX3_init_38 : decode cX3_init 38 = .ok (.return_, 1) := by decide +kernel
theorem dX3_search_0 : decode cX3_search 0 = .ok (.aload_n 0, 1) := by decide +kernel
theorem dX3_search_1 : decode cX3_search 1 = .ok (.aload_n 1, 1) := by decide +kernel
theorem dX3_search_2 : decode cX3_search 2 = .ok (.invokevirtual 28, 3) := by decide +kernel
theorem dX3_search_5 : decode cX3_search 5 = .ok (.putfield 21, 3) := by decide +kernel
theorem dX3_search_8 : decode cX3_search 8 = .ok (.iconst 0, 1) := by decide +kernel
theorem dX3_search_9 : decode cX3_search 9 = .ok (.istore_n 2, 1) := by decide +kernel
theorem dX3_search_10 : decode cX3_search 10 = .ok (.iload_n 2, 1) := by decide +kernel
theorem dX3_search_11 : decode cX3_search 11 = .ok (.aload_n 0, 1) := by decide +kernel
theorem dX3_search_12 : decode cX3_search 12 = .ok (.getfield 21, 3) := by decide +kernel
theorem dX3_search_15 : decode cX3_search 15 = .ok (.if_icmp .ge 55, 3) := by decide +kernel
theorem dX3_search_18 : decode cX3_search 18 = .ok (.iconst 0, 1) := by decide +kernel
theorem dX3_search_19 : decode cX3_search 19 = .ok (.istore_n 3, 1) := by decide +kernel
theorem dX3_search_20 : decode cX3_search 20 = .ok (.iload_n 3, 1) := by decide +kernel
theorem dX3_search_21 : decode cX3_search 21 = .ok (.aload_n 0, 1) := by decide +kernel
theorem dX3_search_22 : decode cX3_search 22 = .ok (.getfield 21, 3) := by decide +kernel
theorem dX3_search_25 : decode cX3_search 25 = .ok (.if_icmp .ge 39, 3) := by decide +kernel
theorem dX3_search_28 : decode cX3_search 28 = .ok (.aload_n 1, 1) := by decide +kernel
theorem dX3_search_29 : decode cX3_search 29 = .ok (.iload_n 2, 1) := by decide +kernel
theorem dX3_search_30 : decode cX3_search 30 = .ok (.iconst 0, 1) := by decide +kernel
theorem dX3_search_31 : decode cX3_search 31 = .ok (.invokevirtual 33, 3) := by decide +kernel
theorem dX3_search_34 : decode cX3_search 34 = .ok (.aload_n 1, 1) := by decide +kernel
theorem dX3_search_35 : decode cX3_search 35 = .ok (.iload_n 3, 1) := by decide +kernel
theorem dX3_search_36 : decode cX3_search 36 = .ok (.iconst 0, 1) := by decide +kernel
theorem dX3_search_37 : decode cX3_search 37 = .ok (.invokevirtual 33, 3) := by decide +kernel
theorem dX3_search_40 : decode cX3_search 40 = .ok (.invokestatic 37, 3) := by decide +kernel
theorem dX3_search_43 : decode cX3_search 43 = .ok (.istore 4, 2) := by decide +kernel
theorem dX3_search_45 : decode cX3_search 45 = .ok (.aload_n 0, 1) := by decide +kernel
theorem dX3_search_46 : decode cX3_search 46 = .ok (.getfield 9, 3) := by decide +kernel
theorem dX3_search_49 : decode cX3_search 49 = .ok (.iload_n 2, 1) := by decide +kernel
theorem dX3_search_50 : decode cX3_search 50 = .ok (.bipush 6, 2) := by decide +kernel
theorem dX3_search_52 : decode cX3_search 52 = .ok (.imul, 1) := by decide +kernel
theorem dX3_search_53 : decode cX3_search 53 = .ok (.iload_n 3, 1) := by decide +kernel
theorem dX3_search_54 : decode cX3_search 54 = .ok (.iadd, 1) := by decide +kernel
theorem dX3_search_55 : decode cX3_search 55 = .ok (.iload 4, 2) := by decide +kernel
theorem dX3_search_57 : decode cX3_search 57 = .ok (.iastore, 1) := by decide +kernel
theorem dX3_search_58 : decode cX3_search 58 = .ok (.iinc 3 1, 3) := by decide +kernel
theorem dX3_search_61 : decode cX3_search 61 = .ok (.goto (-41), 3) := by decide +kernel
theorem dX3_search_64 : decode cX3_search 64 = .ok (.iinc 2 1, 3) := by decide +kernel
theorem dX3_search_67 : decode cX3_search 67 = .ok (.goto (-57), 3) := by decide +kernel
theorem dX3_search_70 : decode cX3_search 70 = .ok (.aload_n 0, 1) := by decide +kernel
theorem dX3_search_71 : decode cX3_search 71 = .ok (.sipush 1000, 3) := by decide +kernel
theorem dX3_search_74 : decode cX3_search 74 = .ok (.putfield 25, 3) := by decide +kernel
theorem dX3_search_77 : decode cX3_search 77 = .ok (.aload_n 0, 1) := by decide +kernel
theorem dX3_search_78 : decode cX3_search 78 = .ok (.iconst 0, 1) := by decide +kernel
theorem dX3_search_79 : decode cX3_search 79 = .ok (.iconst 0, 1) := by decide +kernel
theorem dX3_search_80 : decode cX3_search 80 = .ok (.iconst 0, 1) := by decide +kernel
theorem dX3_search_81 : decode cX3_search 81 = .ok (.invokevirtual 42, 3) := by decide +kernel
theorem dX3_search_84 : decode cX3_search 84 = .ok (.return_, 1) := by decide +kernel
theorem dX3_placed_0 : decode cX3_placed 0 = .ok (.iload_n 1, 1) := by decide +kernel
theorem dX3_placed_1 : decode cX3_placed 1 = .ok (.aload_n 0, 1) := by decide +kernel
theorem dX3_placed_2 : decode cX3_placed 2 = .ok (.getfield 21, 3) := by decide +kernel
theorem dX3_placed_5 : decode cX3_placed 5 = .ok (.invokestatic 46, 3) := by decide +kernel
theorem dX3_placed_8 : decode cX3_placed 8 = .ok (.ifCond .eq 12, 3) := by decide +kernel
theorem dX3_placed_11 : decode cX3_placed 11 = .ok (.aload_n 0, 1) := by decide +kernel
theorem dX3_placed_12 : decode cX3_placed 12 = .ok (.getfield 18, 3) := by decide +kernel
theorem dX3_placed_15 : decode cX3_placed 15 = .ok (.iload_n 1, 1) := by decide +kernel
theorem dX3_placed_16 : decode cX3_placed 16 = .ok (.iaload, 1) := by decide +kernel
theorem dX3_placed_17 : decode cX3_placed 17 = .ok (.goto 4, 3) := by decide +kernel
theorem dX3_placed_20 : decode cX3_placed 20 = .ok (.iconst (-1), 1) := by decide +kernel
theorem dX3_placed_21 : decode cX3_placed 21 = .ok (.ireturn, 1) := by decide +kernel
theorem dX3_tryFrom_0 : decode cX3_tryFrom 0 = .ok (.iload_n 3, 1) := by decide +kernel
theorem dX3_tryFrom_1 : decode cX3_tryFrom 1 = .ok (.aload_n 0, 1) := by decide +kernel
theorem dX3_tryFrom_2 : decode cX3_tryFrom 2 = .ok (.getfield 25, 3) := by decide +kernel
theorem dX3_tryFrom_5 : decode cX3_tryFrom 5 = .ok (.if_icmp .lt 4, 3) := by decide +kernel
theorem dX3_tryFrom_8 : decode cX3_tryFrom 8 = .ok (.return_, 1) := by decide +kernel
theorem dX3_tryFrom_9 : decode cX3_tryFrom 9 = .ok (.iload_n 1, 1) := by decide +kernel
theorem dX3_tryFrom_10 : decode cX3_tryFrom 10 = .ok (.aload_n 0, 1) := by decide +kernel
theorem dX3_tryFrom_11 : decode cX3_tryFrom 11 = .ok (.getfield 21, 3) := by decide +kernel
theorem dX3_tryFrom_14 : decode cX3_tryFrom 14 = .ok (.if_icmp .ge 9, 3) := by decide +kernel
theorem dX3_tryFrom_17 : decode cX3_tryFrom 17 = .ok (.iload_n 1, 1) := by decide +kernel
theorem dX3_tryFrom_18 : decode cX3_tryFrom 18 = .ok (.bipush 6, 2) := by decide +kernel
theorem dX3_tryFrom_20 : decode cX3_tryFrom 20 = .ok (.if_icmp .lt 27, 3) := by decide +kernel
theorem dX3_tryFrom_23 : decode cX3_tryFrom 23 = .ok (.aload_n 0, 1) := by decide +kernel
theorem dX3_tryFrom_24 : decode cX3_tryFrom 24 = .ok (.iload_n 3, 1) := by decide +kernel
theorem dX3_tryFrom_25 : decode cX3_tryFrom 25 = .ok (.putfield 25, 3) := by decide +kernel
theorem dX3_tryFrom_28 : decode cX3_tryFrom 28 = .ok (.aload_n 0, 1) := by decide +kernel
theorem dX3_tryFrom_29 : decode cX3_tryFrom 29 = .ok (.getfield 15, 3) := by decide +kernel
theorem dX3_tryFrom_32 : decode cX3_tryFrom 32 = .ok (.iconst 0, 1) := by decide +kernel
theorem dX3_tryFrom_33 : decode cX3_tryFrom 33 = .ok (.aload_n 0, 1) := by decide +kernel
theorem dX3_tryFrom_34 : decode cX3_tryFrom 34 = .ok (.getfield 18, 3) := by decide +kernel
theorem dX3_tryFrom_37 : decode cX3_tryFrom 37 = .ok (.iconst 0, 1) := by decide +kernel
theorem dX3_tryFrom_38 : decode cX3_tryFrom 38 = .ok (.aload_n 0, 1) := by decide +kernel
theorem dX3_tryFrom_39 : decode cX3_tryFrom 39 = .ok (.getfield 15, 3) := by decide +kernel
theorem dX3_tryFrom_42 : decode cX3_tryFrom 42 = .ok (.arraylength, 1) := by decide +kernel
theorem dX3_tryFrom_43 : decode cX3_tryFrom 43 = .ok (.invokestatic 50, 3) := by decide +kernel
theorem dX3_tryFrom_46 : decode cX3_tryFrom 46 = .ok (.return_, 1) := by decide +kernel
theorem dX3_tryFrom_47 : decode cX3_tryFrom 47 = .ok (.iconst 0, 1) := by decide +kernel
theorem dX3_tryFrom_48 : decode cX3_tryFrom 48 = .ok (.istore 4, 2) := by decide +kernel
theorem dX3_tryFrom_50 : decode cX3_tryFrom 50 = .ok (.iload 4, 2) := by decide +kernel
theorem dX3_tryFrom_52 : decode cX3_tryFrom 52 = .ok (.aload_n 0, 1) := by decide +kernel
theorem dX3_tryFrom_53 : decode cX3_tryFrom 53 = .ok (.getfield 21, 3) := by decide +kernel
theorem dX3_tryFrom_56 : decode cX3_tryFrom 56 = .ok (.if_icmp .ge 48, 3) := by decide +kernel
theorem dX3_tryFrom_59 : decode cX3_tryFrom 59 = .ok (.iload_n 2, 1) := by decide +kernel
theorem dX3_tryFrom_60 : decode cX3_tryFrom 60 = .ok (.iload 4, 2) := by decide +kernel
theorem dX3_tryFrom_62 : decode cX3_tryFrom 62 = .ok (.ishr, 1) := by decide +kernel
theorem dX3_tryFrom_63 : decode cX3_tryFrom 63 = .ok (.iconst 1, 1) := by decide +kernel
theorem dX3_tryFrom_64 : decode cX3_tryFrom 64 = .ok (.iand, 1) := by decide +kernel
theorem dX3_tryFrom_65 : decode cX3_tryFrom 65 = .ok (.ifCond .ne 33, 3) := by decide +kernel
theorem dX3_tryFrom_68 : decode cX3_tryFrom 68 = .ok (.aload_n 0, 1) := by decide +kernel
theorem dX3_tryFrom_69 : decode cX3_tryFrom 69 = .ok (.getfield 15, 3) := by decide +kernel
theorem dX3_tryFrom_72 : decode cX3_tryFrom 72 = .ok (.iload_n 1, 1) := by decide +kernel
theorem dX3_tryFrom_73 : decode cX3_tryFrom 73 = .ok (.iload 4, 2) := by decide +kernel
theorem dX3_tryFrom_75 : decode cX3_tryFrom 75 = .ok (.iastore, 1) := by decide +kernel
theorem dX3_tryFrom_76 : decode cX3_tryFrom 76 = .ok (.aload_n 0, 1) := by decide +kernel
theorem dX3_tryFrom_77 : decode cX3_tryFrom 77 = .ok (.iload_n 1, 1) := by decide +kernel
theorem dX3_tryFrom_78 : decode cX3_tryFrom 78 = .ok (.iconst 1, 1) := by decide +kernel
theorem dX3_tryFrom_79 : decode cX3_tryFrom 79 = .ok (.iadd, 1) := by decide +kernel
theorem dX3_tryFrom_80 : decode cX3_tryFrom 80 = .ok (.iload_n 2, 1) := by decide +kernel
theorem dX3_tryFrom_81 : decode cX3_tryFrom 81 = .ok (.iconst 1, 1) := by decide +kernel
theorem dX3_tryFrom_82 : decode cX3_tryFrom 82 = .ok (.iload 4, 2) := by decide +kernel
theorem dX3_tryFrom_84 : decode cX3_tryFrom 84 = .ok (.ishl, 1) := by decide +kernel
theorem dX3_tryFrom_85 : decode cX3_tryFrom 85 = .ok (.ior, 1) := by decide +kernel
theorem dX3_tryFrom_86 : decode cX3_tryFrom 86 = .ok (.iload_n 3, 1) := by decide +kernel
theorem dX3_tryFrom_87 : decode cX3_tryFrom 87 = .ok (.aload_n 0, 1) := by decide +kernel
theorem dX3_tryFrom_88 : decode cX3_tryFrom 88 = .ok (.iload_n 1, 1) := by decide +kernel
theorem dX3_tryFrom_89 : decode cX3_tryFrom 89 = .ok (.iload 4, 2) := by decide +kernel
theorem dX3_tryFrom_91 : decode cX3_tryFrom 91 = .ok (.invokevirtual 56, 3) := by decide +kernel
theorem dX3_tryFrom_94 : decode cX3_tryFrom 94 = .ok (.iadd, 1) := by decide +kernel
theorem dX3_tryFrom_95 : decode cX3_tryFrom 95 = .ok (.invokevirtual 42, 3) := by decide +kernel
theorem dX3_tryFrom_98 : decode cX3_tryFrom 98 = .ok (.iinc 4 1, 3) := by decide +kernel
theorem dX3_tryFrom_101 : decode cX3_tryFrom 101 = .ok (.goto (-51), 3) := by decide +kernel
theorem dX3_tryFrom_104 : decode cX3_tryFrom 104 = .ok (.return_, 1) := by decide +kernel
theorem dX3_unlikeAhead_0 : decode cX3_unlikeAhead 0 = .ok (.iload_n 1, 1) := by decide +kernel
theorem dX3_unlikeAhead_1 : decode cX3_unlikeAhead 1 = .ok (.ifCond .le 24, 3) := by decide +kernel
theorem dX3_unlikeAhead_4 : decode cX3_unlikeAhead 4 = .ok (.aload_n 0, 1) := by decide +kernel
theorem dX3_unlikeAhead_5 : decode cX3_unlikeAhead 5 = .ok (.getfield 9, 3) := by decide +kernel
theorem dX3_unlikeAhead_8 : decode cX3_unlikeAhead 8 = .ok (.aload_n 0, 1) := by decide +kernel
theorem dX3_unlikeAhead_9 : decode cX3_unlikeAhead 9 = .ok (.getfield 15, 3) := by decide +kernel
theorem dX3_unlikeAhead_12 : decode cX3_unlikeAhead 12 = .ok (.iload_n 1, 1) := by decide +kernel
theorem dX3_unlikeAhead_13 : decode cX3_unlikeAhead 13 = .ok (.iconst 1, 1) := by decide +kernel
theorem dX3_unlikeAhead_14 : decode cX3_unlikeAhead 14 = .ok (.isub, 1) := by decide +kernel
theorem dX3_unlikeAhead_15 : decode cX3_unlikeAhead 15 = .ok (.iaload, 1) := by decide +kernel
theorem dX3_unlikeAhead_16 : decode cX3_unlikeAhead 16 = .ok (.bipush 6, 2) := by decide +kernel
theorem dX3_unlikeAhead_18 : decode cX3_unlikeAhead 18 = .ok (.imul, 1) := by decide +kernel
theorem dX3_unlikeAhead_19 : decode cX3_unlikeAhead 19 = .ok (.iload_n 2, 1) := by decide +kernel
theorem dX3_unlikeAhead_20 : decode cX3_unlikeAhead 20 = .ok (.iadd, 1) := by decide +kernel
theorem dX3_unlikeAhead_21 : decode cX3_unlikeAhead 21 = .ok (.iaload, 1) := by decide +kernel
theorem dX3_unlikeAhead_22 : decode cX3_unlikeAhead 22 = .ok (.goto 4, 3) := by decide +kernel
theorem dX3_unlikeAhead_25 : decode cX3_unlikeAhead 25 = .ok (.iconst 0, 1) := by decide +kernel
theorem dX3_unlikeAhead_26 : decode cX3_unlikeAhead 26 = .ok (.ireturn, 1) := by decide +kernel
theorem dX4_init_0 : decode cX4_init 0 = .ok (.aload_n 0, 1) := by decide +kernel
theorem dX4_init_1 : decode cX4_init 1 = .ok (.invokespecial 3, 3) := by decide +kernel
theorem dX4_init_4 : decode cX4_init 4 = .ok (.aload_n 0, 1) := by decide +kernel
theorem dX4_init_5 : decode cX4_init 5 = .ok (.bipush 24, 2) := by decide +kernel
theorem dX4_init_7 : decode cX4_init 7 = .ok (.newarray .int, 2) := by decide +kernel
theorem dX4_init_9 : decode cX4_init 9 = .ok (.putfield 9, 3) := by decide +kernel
theorem dX4_init_12 : decode cX4_init 12 = .ok (.aload_n 0, 1) := by decide +kernel
theorem dX4_init_13 : decode cX4_init 13 = .ok (.iconst 0, 1) := by decide +kernel
theorem dX4_init_14 : decode cX4_init 14 = .ok (.putfield 15, 3) := by decide +kernel
theorem dX4_init_17 : decode cX4_init 17 = .ok (.return_, 1) := by decide +kernel
theorem dX4_size_0 : decode cX4_size 0 = .ok (.aload_n 0, 1) := by decide +kernel
theorem dX4_size_1 : decode cX4_size 1 = .ok (.getfield 15, 3) := by decide +kernel
theorem dX4_size_4 : decode cX4_size 4 = .ok (.ireturn, 1) := by decide +kernel
theorem dX4_isFull_0 : decode cX4_isFull 0 = .ok (.aload_n 0, 1) := by decide +kernel
theorem dX4_isFull_1 : decode cX4_isFull 1 = .ok (.getfield 15, 3) := by decide +kernel
theorem dX4_isFull_4 : decode cX4_isFull 4 = .ok (.bipush 6, 2) := by decide +kernel
theorem dX4_isFull_6 : decode cX4_isFull 6 = .ok (.if_icmp .lt 7, 3) := by decide +kernel
theorem dX4_isFull_9 : decode cX4_isFull 9 = .ok (.iconst 1, 1) := by decide +kernel
theorem dX4_isFull_10 : decode cX4_isFull 10 = .ok (.goto 4, 3) := by decide +kernel
theorem dX4_isFull_13 : decode cX4_isFull 13 = .ok (.iconst 0, 1) := by decide +kernel
theorem dX4_isFull_14 : decode cX4_isFull 14 = .ok (.ireturn, 1) := by decide +kernel
theorem dX4_has_0 : decode cX4_has 0 = .ok (.iload_n 1, 1) := by decide +kernel
theorem dX4_has_1 : decode cX4_has 1 = .ok (.ifCond .lt 15, 3) := by decide +kernel
theorem dX4_has_4 : decode cX4_has 4 = .ok (.iload_n 1, 1) := by decide +kernel
theorem dX4_has_5 : decode cX4_has 5 = .ok (.aload_n 0, 1) := by decide +kernel
theorem dX4_has_6 : decode cX4_has 6 = .ok (.getfield 15, 3) := by decide +kernel
theorem dX4_has_9 : decode cX4_has 9 = .ok (.if_icmp .ge 7, 3) := by decide +kernel
theorem dX4_has_12 : decode cX4_has 12 = .ok (.iconst 1, 1) := by decide +kernel
theorem dX4_has_13 : decode cX4_has 13 = .ok (.goto 4, 3) := by decide +kernel
theorem dX4_has_16 : decode cX4_has 16 = .ok (.iconst 0, 1) := by decide +kernel
theorem dX4_has_17 : decode cX4_has 17 = .ok (.ireturn, 1) := by decide +kernel
theorem dX4_empty_0 : decode cX4_empty 0 = .ok (.aload_n 0, 1) := by decide +kernel
theorem dX4_empty_1 : decode cX4_empty 1 = .ok (.iconst 0, 1) := by decide +kernel
theorem dX4_empty_2 : decode cX4_empty 2 = .ok (.putfield 15, 3) := by decide +kernel
theorem dX4_empty_5 : decode cX4_empty 5 = .ok (.return_, 1) := by decide +kernel
theorem dX4_copyFrom_0 : decode cX4_copyFrom 0 = .ok (.aload_n 1, 1) := by decide +kernel
theorem dX4_copyFrom_1 : decode cX4_copyFrom 1 = .ok (.getfield 9, 3) := by decide +kernel
theorem dX4_copyFrom_4 : decode cX4_copyFrom 4 = .ok (.iconst 0, 1) := by decide +kernel
theorem dX4_copyFrom_5 : decode cX4_copyFrom 5 = .ok (.aload_n 0, 1) := by decide +kernel
theorem dX4_copyFrom_6 : decode cX4_copyFrom 6 = .ok (.getfield 9, 3) := by decide +kernel
theorem dX4_copyFrom_9 : decode cX4_copyFrom 9 = .ok (.iconst 0, 1) := by decide +kernel
theorem dX4_copyFrom_10 : decode cX4_copyFrom 10 = .ok (.aload_n 0, 1) := by decide +kernel
theorem dX4_copyFrom_11 : decode cX4_copyFrom 11 = .ok (.getfield 9, 3) := by decide +kernel
theorem dX4_copyFrom_14 : decode cX4_copyFrom 14 = .ok (.arraylength, 1) := by decide +kernel
theorem dX4_copyFrom_15 : decode cX4_copyFrom 15 = .ok (.invokestatic 19, 3) := by decide +kernel
theorem dX4_copyFrom_18 : decode cX4_copyFrom 18 = .ok (.aload_n 0, 1) := by decide +kernel
theorem dX4_copyFrom_19 : decode cX4_copyFrom 19 = .ok (.aload_n 1, 1) := by decide +kernel
theorem dX4_copyFrom_20 : decode cX4_copyFrom 20 = .ok (.getfield 15, 3) := by decide +kernel
theorem dX4_copyFrom_23 : decode cX4_copyFrom 23 = .ok (.putfield 15, 3) := by decide +kernel
theorem dX4_copyFrom_26 : decode cX4_copyFrom 26 = .ok (.return_, 1) := by decide +kernel
theorem dX4_fact_0 : decode cX4_fact 0 = .ok (.aload_n 0, 1) := by decide +kernel
theorem dX4_fact_1 : decode cX4_fact 1 = .ok (.iload_n 1, 1) := by decide +kernel
theorem dX4_fact_2 : decode cX4_fact 2 = .ok (.invokevirtual 25, 3) := by decide +kernel
theorem dX4_fact_5 : decode cX4_fact 5 = .ok (.ifCond .eq 24, 3) := by decide +kernel
theorem dX4_fact_8 : decode cX4_fact 8 = .ok (.iload_n 2, 1) := by decide +kernel
theorem dX4_fact_9 : decode cX4_fact 9 = .ok (.iconst 4, 1) := by decide +kernel
theorem dX4_fact_10 : decode cX4_fact 10 = .ok (.invokestatic 29, 3) := by decide +kernel
theorem dX4_fact_13 : decode cX4_fact 13 = .ok (.ifCond .eq 16, 3) := by decide +kernel
theorem dX4_fact_16 : decode cX4_fact 16 = .ok (.aload_n 0, 1) := by decide +kernel
theorem dX4_fact_17 : decode cX4_fact 17 = .ok (.getfield 9, 3) := by decide +kernel
theorem dX4_fact_20 : decode cX4_fact 20 = .ok (.iload_n 1, 1) := by decide +kernel
theorem dX4_fact_21 : decode cX4_fact 21 = .ok (.iconst 4, 1) := by decide +kernel
theorem dX4_fact_22 : decode cX4_fact 22 = .ok (.imul, 1) := by decide +kernel
theorem dX4_fact_23 : decode cX4_fact 23 = .ok (.iload_n 2, 1) := by decide +kernel
theorem dX4_fact_24 : decode cX4_fact 24 = .ok (.iadd, 1) := by decide +kernel
theorem dX4_fact_25 : decode cX4_fact 25 = .ok (.iaload, 1) := by decide +kernel
theorem dX4_fact_26 : decode cX4_fact 26 = .ok (.goto 4, 3) := by decide +kernel
theorem dX4_fact_29 : decode cX4_fact 29 = .ok (.iconst 0, 1) := by decide +kernel
theorem dX4_fact_30 : decode cX4_fact 30 = .ok (.ireturn, 1) := by decide +kernel
theorem dX4_put_0 : decode cX4_put 0 = .ok (.aload_n 0, 1) := by decide +kernel
theorem dX4_put_1 : decode cX4_put 1 = .ok (.iload_n 1, 1) := by decide +kernel
theorem dX4_put_2 : decode cX4_put 2 = .ok (.invokevirtual 25, 3) := by decide +kernel
theorem dX4_put_5 : decode cX4_put 5 = .ok (.ifCond .eq 22, 3) := by decide +kernel
theorem dX4_put_8 : decode cX4_put 8 = .ok (.iload_n 2, 1) := by decide +kernel
theorem dX4_put_9 : decode cX4_put 9 = .ok (.iconst 4, 1) := by decide +kernel
theorem dX4_put_10 : decode cX4_put 10 = .ok (.invokestatic 29, 3) := by decide +kernel
theorem dX4_put_13 : decode cX4_put 13 = .ok (.ifCond .eq 14, 3) := by decide +kernel
theorem dX4_put_16 : decode cX4_put 16 = .ok (.aload_n 0, 1) := by decide +kernel
theorem dX4_put_17 : decode cX4_put 17 = .ok (.getfield 9, 3) := by decide +kernel
theorem dX4_put_20 : decode cX4_put 20 = .ok (.iload_n 1, 1) := by decide +kernel
theorem dX4_put_21 : decode cX4_put 21 = .ok (.iconst 4, 1) := by decide +kernel
theorem dX4_put_22 : decode cX4_put 22 = .ok (.imul, 1) := by decide +kernel
theorem dX4_put_23 : decode cX4_put 23 = .ok (.iload_n 2, 1) := by decide +kernel
theorem dX4_put_24 : decode cX4_put 24 = .ok (.iadd, 1) := by decide +kernel
theorem dX4_put_25 : decode cX4_put 25 = .ok (.iload_n 3, 1) := by decide +kernel
theorem dX4_put_26 : decode cX4_put 26 = .ok (.iastore, 1) := by decide +kernel
theorem dX4_put_27 : decode cX4_put 27 = .ok (.return_, 1) := by decide +kernel
theorem dX4_add_0 : decode cX4_add 0 = .ok (.aload_n 0, 1) := by decide +kernel
theorem dX4_add_1 : decode cX4_add 1 = .ok (.invokevirtual 33, 3) := by decide +kernel
theorem dX4_add_4 : decode cX4_add 4 = .ok (.ifCond .eq 6, 3) := by decide +kernel
theorem dX4_add_7 : decode cX4_add 7 = .ok (.bipush (-4), 2) := by decide +kernel
theorem dX4_add_9 : decode cX4_add 9 = .ok (.ireturn, 1) := by decide +kernel
theorem dX4_add_10 : decode cX4_add 10 = .ok (.aload_n 0, 1) := by decide +kernel
theorem dX4_add_11 : decode cX4_add 11 = .ok (.getfield 15, 3) := by decide +kernel
theorem dX4_add_14 : decode cX4_add 14 = .ok (.istore 5, 2) := by decide +kernel
theorem dX4_add_16 : decode cX4_add 16 = .ok (.aload_n 0, 1) := by decide +kernel
theorem dX4_add_17 : decode cX4_add 17 = .ok (.dup, 1) := by decide +kernel
theorem dX4_add_18 : decode cX4_add 18 = .ok (.getfield 15, 3) := by decide +kernel
theorem dX4_add_21 : decode cX4_add 21 = .ok (.iconst 1, 1) := by decide +kernel
theorem dX4_add_22 : decode cX4_add 22 = .ok (.iadd, 1) := by decide +kernel
theorem dX4_add_23 : decode cX4_add 23 = .ok (.putfield 15, 3) := by decide +kernel
theorem dX4_add_26 : decode cX4_add 26 = .ok (.aload_n 0, 1) := by decide +kernel
theorem dX4_add_27 : decode cX4_add 27 = .ok (.iload 5, 2) := by decide +kernel
theorem dX4_add_29 : decode cX4_add 29 = .ok (.iconst 0, 1) := by decide +kernel
theorem dX4_add_30 : decode cX4_add 30 = .ok (.iload_n 1, 1) := by decide +kernel
theorem dX4_add_31 : decode cX4_add 31 = .ok (.invokevirtual 37, 3) := by decide +kernel
theorem dX4_add_34 : decode cX4_add 34 = .ok (.aload_n 0, 1) := by decide +kernel
theorem dX4_add_35 : decode cX4_add 35 = .ok (.iload 5, 2) := by decide +kernel
theorem dX4_add_37 : decode cX4_add 37 = .ok (.iconst 1, 1) := by decide +kernel
theorem dX4_add_38 : decode cX4_add 38 = .ok (.iload_n 2, 1) := by decide +kernel
theorem dX4_add_39 : decode cX4_add 39 = .ok (.invokevirtual 37, 3) := by decide +kernel
theorem dX4_add_42 : decode cX4_add 42 = .ok (.aload_n 0, 1) := by decide +kernel
theorem dX4_add_43 : decode cX4_add 43 = .ok (.iload 5, 2) := by decide +kernel
theorem dX4_add_45 : decode cX4_add 45 = .ok (.iconst 2, 1) := by decide +kernel
theorem dX4_add_46 : decode cX4_add 46 = .ok (.iload_n 3, 1) := by decide +kernel
theorem dX4_add_47 : decode cX4_add 47 = .ok (.invokevirtual 37, 3) := by decide +kernel
theorem dX4_add_50 : decode cX4_add 50 = .ok (.aload_n 0, 1) := by decide +kernel
theorem dX4_add_51 : decode cX4_add 51 = .ok (.iload 5, 2) := by decide +kernel
theorem dX4_add_53 : decode cX4_add 53 = .ok (.iconst 3, 1) := by decide +kernel
theorem dX4_add_54 : decode cX4_add 54 = .ok (.iload 4, 2) := by decide +kernel
theorem dX4_add_56 : decode cX4_add 56 = .ok (.invokevirtual 37, 3) := by decide +kernel
theorem dX4_add_59 : decode cX4_add 59 = .ok (.iload 5, 2) := by decide +kernel
theorem dX4_add_61 : decode cX4_add 61 = .ok (.ireturn, 1) := by decide +kernel
theorem dX5_init_0 : decode cX5_init 0 = .ok (.aload_n 0, 1) := by decide +kernel
theorem dX5_init_1 : decode cX5_init 1 = .ok (.invokespecial 3, 3) := by decide +kernel
theorem dX5_init_4 : decode cX5_init 4 = .ok (.return_, 1) := by decide +kernel
theorem dX5_wearDown_0 : decode cX5_wearDown 0 = .ok (.aload_n 0, 1) := by decide +kernel
theorem dX5_wearDown_1 : decode cX5_wearDown 1 = .ok (.iload_n 1, 1) := by decide +kernel
theorem dX5_wearDown_2 : decode cX5_wearDown 2 = .ok (.iconst 3, 1) := by decide +kernel
theorem dX5_wearDown_3 : decode cX5_wearDown 3 = .ok (.aload_n 0, 1) := by decide +kernel
theorem dX5_wearDown_4 : decode cX5_wearDown 4 = .ok (.iload_n 1, 1) := by decide +kernel
theorem dX5_wearDown_5 : decode cX5_wearDown 5 = .ok (.iconst 3, 1) := by decide +kernel
theorem dX5_wearDown_6 : decode cX5_wearDown 6 = .ok (.invokevirtual 9, 3) := by decide +kernel
theorem dX5_wearDown_9 : decode cX5_wearDown 9 = .ok (.iload_n 2, 1) := by decide +kernel
theorem dX5_wearDown_10 : decode cX5_wearDown 10 = .ok (.iadd, 1) := by decide +kernel
theorem dX5_wearDown_11 : decode cX5_wearDown 11 = .ok (.bipush 9, 2) := by decide +kernel
theorem dX5_wearDown_13 : decode cX5_wearDown 13 = .ok (.invokestatic 15, 3) := by decide +kernel
theorem dX5_wearDown_16 : decode cX5_wearDown 16 = .ok (.invokevirtual 20, 3) := by decide +kernel
theorem dX5_wearDown_19 : decode cX5_wearDown 19 = .ok (.return_, 1) := by decide +kernel
theorem dX5_join_0 : decode cX5_join 0 = .ok (.aload_n 0, 1) := by decide +kernel
theorem dX5_join_1 : decode cX5_join 1 = .ok (.iload_n 1, 1) := by decide +kernel
theorem dX5_join_2 : decode cX5_join 2 = .ok (.iconst 1, 1) := by decide +kernel
theorem dX5_join_3 : decode cX5_join 3 = .ok (.aload_n 0, 1) := by decide +kernel
theorem dX5_join_4 : decode cX5_join 4 = .ok (.iload_n 1, 1) := by decide +kernel
theorem dX5_join_5 : decode cX5_join 5 = .ok (.iconst 1, 1) := by decide +kernel
theorem dX5_join_6 : decode cX5_join 6 = .ok (.invokevirtual 9, 3) := by decide +kernel
theorem dX5_join_9 : decode cX5_join 9 = .ok (.aload_n 0, 1) := by decide +kernel
theorem dX5_join_10 : decode cX5_join 10 = .ok (.iload_n 2, 1) := by decide +kernel
theorem dX5_join_11 : decode cX5_join 11 = .ok (.iconst 1, 1) := by decide +kernel
theorem dX5_join_12 : decode cX5_join 12 = .ok (.invokevirtual 9, 3) := by decide +kernel
theorem dX5_join_15 : decode cX5_join 15 = .ok (.invokestatic 24, 3) := by decide +kernel
theorem dX5_join_18 : decode cX5_join 18 = .ok (.invokevirtual 20, 3) := by decide +kernel
theorem dX5_join_21 : decode cX5_join 21 = .ok (.aload_n 0, 1) := by decide +kernel
theorem dX5_join_22 : decode cX5_join 22 = .ok (.iload_n 1, 1) := by decide +kernel
theorem dX5_join_23 : decode cX5_join 23 = .ok (.iconst 3, 1) := by decide +kernel
theorem dX5_join_24 : decode cX5_join 24 = .ok (.aload_n 0, 1) := by decide +kernel
theorem dX5_join_25 : decode cX5_join 25 = .ok (.iload_n 1, 1) := by decide +kernel
theorem dX5_join_26 : decode cX5_join 26 = .ok (.iconst 3, 1) := by decide +kernel
theorem dX5_join_27 : decode cX5_join 27 = .ok (.invokevirtual 9, 3) := by decide +kernel
theorem dX5_join_30 : decode cX5_join 30 = .ok (.aload_n 0, 1) := by decide +kernel
theorem dX5_join_31 : decode cX5_join 31 = .ok (.iload_n 2, 1) := by decide +kernel
theorem dX5_join_32 : decode cX5_join 32 = .ok (.iconst 3, 1) := by decide +kernel
theorem dX5_join_33 : decode cX5_join 33 = .ok (.invokevirtual 9, 3) := by decide +kernel
theorem dX5_join_36 : decode cX5_join 36 = .ok (.invokestatic 29, 3) := by decide +kernel
theorem dX5_join_39 : decode cX5_join 39 = .ok (.invokevirtual 20, 3) := by decide +kernel
theorem dX5_join_42 : decode cX5_join 42 = .ok (.iload_n 2, 1) := by decide +kernel
theorem dX5_join_43 : decode cX5_join 43 = .ok (.istore_n 3, 1) := by decide +kernel
theorem dX5_join_44 : decode cX5_join 44 = .ok (.iload_n 3, 1) := by decide +kernel
theorem dX5_join_45 : decode cX5_join 45 = .ok (.aload_n 0, 1) := by decide +kernel
theorem dX5_join_46 : decode cX5_join 46 = .ok (.getfield 32, 3) := by decide +kernel
theorem dX5_join_49 : decode cX5_join 49 = .ok (.iconst 1, 1) := by decide +kernel
theorem dX5_join_50 : decode cX5_join 50 = .ok (.isub, 1) := by decide +kernel
theorem dX5_join_51 : decode cX5_join 51 = .ok (.if_icmp .ge 40, 3) := by decide +kernel
theorem dX5_join_54 : decode cX5_join 54 = .ok (.iconst 0, 1) := by decide +kernel
theorem dX5_join_55 : decode cX5_join 55 = .ok (.istore 4, 2) := by decide +kernel
theorem dX5_join_57 : decode cX5_join 57 = .ok (.iload 4, 2) := by decide +kernel
theorem dX5_join_59 : decode cX5_join 59 = .ok (.iconst 4, 1) := by decide +kernel
theorem dX5_join_60 : decode cX5_join 60 = .ok (.if_icmp .ge 25, 3) := by decide +kernel
theorem dX5_join_63 : decode cX5_join 63 = .ok (.aload_n 0, 1) := by decide +kernel
theorem dX5_join_64 : decode cX5_join 64 = .ok (.iload_n 3, 1) := by decide +kernel
theorem dX5_join_65 : decode cX5_join 65 = .ok (.iload 4, 2) := by decide +kernel
theorem dX5_join_67 : decode cX5_join 67 = .ok (.aload_n 0, 1) := by decide +kernel
theorem dX5_join_68 : decode cX5_join 68 = .ok (.iload_n 3, 1) := by decide +kernel
theorem dX5_join_69 : decode cX5_join 69 = .ok (.iconst 1, 1) := by decide +kernel
theorem dX5_join_70 : decode cX5_join 70 = .ok (.iadd, 1) := by decide +kernel
theorem dX5_join_71 : decode cX5_join 71 = .ok (.iload 4, 2) := by decide +kernel
theorem dX5_join_73 : decode cX5_join 73 = .ok (.invokevirtual 9, 3) := by decide +kernel
theorem dX5_join_76 : decode cX5_join 76 = .ok (.invokevirtual 20, 3) := by decide +kernel
theorem dX5_join_79 : decode cX5_join 79 = .ok (.iinc 4 1, 3) := by decide +kernel
theorem dX5_join_82 : decode cX5_join 82 = .ok (.goto (-25), 3) := by decide +kernel
theorem dX5_join_85 : decode cX5_join 85 = .ok (.iinc 3 1, 3) := by decide +kernel
theorem dX5_join_88 : decode cX5_join 88 = .ok (.goto (-44), 3) := by decide +kernel
theorem dX5_join_91 : decode cX5_join 91 = .ok (.aload_n 0, 1) := by decide +kernel
theorem dX5_join_92 : decode cX5_join 92 = .ok (.aload_n 0, 1) := by decide +kernel
theorem dX5_join_93 : decode cX5_join 93 = .ok (.getfield 32, 3) := by decide +kernel
theorem dX5_join_96 : decode cX5_join 96 = .ok (.iconst 1, 1) := by decide +kernel
theorem dX5_join_97 : decode cX5_join 97 = .ok (.isub, 1) := by decide +kernel
theorem dX5_join_98 : decode cX5_join 98 = .ok (.iconst 0, 1) := by decide +kernel
theorem dX5_join_99 : decode cX5_join 99 = .ok (.invokestatic 29, 3) := by decide +kernel
theorem dX5_join_102 : decode cX5_join 102 = .ok (.putfield 32, 3) := by decide +kernel
theorem dX5_join_105 : decode cX5_join 105 = .ok (.return_, 1) := by decide +kernel
theorem dX5_sumOf_0 : decode cX5_sumOf 0 = .ok (.iconst 0, 1) := by decide +kernel
theorem dX5_sumOf_1 : decode cX5_sumOf 1 = .ok (.istore_n 2, 1) := by decide +kernel
theorem dX5_sumOf_2 : decode cX5_sumOf 2 = .ok (.iconst 0, 1) := by decide +kernel
theorem dX5_sumOf_3 : decode cX5_sumOf 3 = .ok (.istore_n 3, 1) := by decide +kernel
theorem dX5_sumOf_4 : decode cX5_sumOf 4 = .ok (.iload_n 3, 1) := by decide +kernel
theorem dX5_sumOf_5 : decode cX5_sumOf 5 = .ok (.aload_n 0, 1) := by decide +kernel
theorem dX5_sumOf_6 : decode cX5_sumOf 6 = .ok (.getfield 32, 3) := by decide +kernel
theorem dX5_sumOf_9 : decode cX5_sumOf 9 = .ok (.if_icmp .ge 18, 3) := by decide +kernel
theorem dX5_sumOf_12 : decode cX5_sumOf 12 = .ok (.iload_n 2, 1) := by decide +kernel
theorem dX5_sumOf_13 : decode cX5_sumOf 13 = .ok (.aload_n 0, 1) := by decide +kernel
theorem dX5_sumOf_14 : decode cX5_sumOf 14 = .ok (.iload_n 3, 1) := by decide +kernel
theorem dX5_sumOf_15 : decode cX5_sumOf 15 = .ok (.iload_n 1, 1) := by decide +kernel
theorem dX5_sumOf_16 : decode cX5_sumOf 16 = .ok (.invokevirtual 9, 3) := by decide +kernel
theorem dX5_sumOf_19 : decode cX5_sumOf 19 = .ok (.iadd, 1) := by decide +kernel
theorem dX5_sumOf_20 : decode cX5_sumOf 20 = .ok (.istore_n 2, 1) := by decide +kernel
theorem dX5_sumOf_21 : decode cX5_sumOf 21 = .ok (.iinc 3 1, 3) := by decide +kernel
theorem dX5_sumOf_24 : decode cX5_sumOf 24 = .ok (.goto (-20), 3) := by decide +kernel
theorem dX5_sumOf_27 : decode cX5_sumOf 27 = .ok (.iload_n 2, 1) := by decide +kernel
theorem dX5_sumOf_28 : decode cX5_sumOf 28 = .ok (.ireturn, 1) := by decide +kernel
theorem dX5_seenAsKind_0 : decode cX5_seenAsKind 0 = .ok (.iload_n 2, 1) := by decide +kernel
theorem dX5_seenAsKind_1 : decode cX5_seenAsKind 1 = .ok (.aload_n 0, 1) := by decide +kernel
theorem dX5_seenAsKind_2 : decode cX5_seenAsKind 2 = .ok (.iload_n 1, 1) := by decide +kernel
theorem dX5_seenAsKind_3 : decode cX5_seenAsKind 3 = .ok (.iconst 1, 1) := by decide +kernel
theorem dX5_seenAsKind_4 : decode cX5_seenAsKind 4 = .ok (.invokevirtual 9, 3) := by decide +kernel
theorem dX5_seenAsKind_7 : decode cX5_seenAsKind 7 = .ok (.iload_n 3, 1) := by decide +kernel
theorem dX5_seenAsKind_8 : decode cX5_seenAsKind 8 = .ok (.aload_n 0, 1) := by decide +kernel
theorem dX5_seenAsKind_9 : decode cX5_seenAsKind 9 = .ok (.iload_n 1, 1) := by decide +kernel
theorem dX5_seenAsKind_10 : decode cX5_seenAsKind 10 = .ok (.iconst 3, 1) := by decide +kernel
theorem dX5_seenAsKind_11 : decode cX5_seenAsKind 11 = .ok (.invokevirtual 9, 3) := by decide +kernel
theorem dX5_seenAsKind_14 : decode cX5_seenAsKind 14 = .ok (.invokestatic 36, 3) := by decide +kernel
theorem dX5_seenAsKind_17 : decode cX5_seenAsKind 17 = .ok (.ireturn, 1) := by decide +kernel
theorem dX5_seenAt_0 : decode cX5_seenAt 0 = .ok (.aload_n 0, 1) := by decide +kernel
theorem dX5_seenAt_1 : decode cX5_seenAt 1 = .ok (.iload_n 1, 1) := by decide +kernel
theorem dX5_seenAt_2 : decode cX5_seenAt 2 = .ok (.iconst 0, 1) := by decide +kernel
theorem dX5_seenAt_3 : decode cX5_seenAt 3 = .ok (.invokevirtual 9, 3) := by decide +kernel
theorem dX5_seenAt_6 : decode cX5_seenAt 6 = .ok (.aload_n 0, 1) := by decide +kernel
theorem dX5_seenAt_7 : decode cX5_seenAt 7 = .ok (.iload_n 1, 1) := by decide +kernel
theorem dX5_seenAt_8 : decode cX5_seenAt 8 = .ok (.iconst 1, 1) := by decide +kernel
theorem dX5_seenAt_9 : decode cX5_seenAt 9 = .ok (.invokevirtual 9, 3) := by decide +kernel
theorem dX5_seenAt_12 : decode cX5_seenAt 12 = .ok (.iload_n 2, 1) := by decide +kernel
theorem dX5_seenAt_13 : decode cX5_seenAt 13 = .ok (.aload_n 0, 1) := by decide +kernel
theorem dX5_seenAt_14 : decode cX5_seenAt 14 = .ok (.iload_n 1, 1) := by decide +kernel
theorem dX5_seenAt_15 : decode cX5_seenAt 15 = .ok (.iconst 3, 1) := by decide +kernel
theorem dX5_seenAt_16 : decode cX5_seenAt 16 = .ok (.invokevirtual 9, 3) := by decide +kernel
theorem dX5_seenAt_19 : decode cX5_seenAt 19 = .ok (.invokestatic 36, 3) := by decide +kernel
theorem dX5_seenAt_22 : decode cX5_seenAt 22 = .ok (.ireturn, 1) := by decide +kernel
theorem dX5_seenAs_0 : decode cX5_seenAs 0 = .ok (.iconst 0, 1) := by decide +kernel
theorem dX5_seenAs_1 : decode cX5_seenAs 1 = .ok (.istore_n 3, 1) := by decide +kernel
theorem dX5_seenAs_2 : decode cX5_seenAs 2 = .ok (.iconst 0, 1) := by decide +kernel
theorem dX5_seenAs_3 : decode cX5_seenAs 3 = .ok (.istore 4, 2) := by decide +kernel
theorem dX5_seenAs_5 : decode cX5_seenAs 5 = .ok (.iload 4, 2) := by decide +kernel
theorem dX5_seenAs_7 : decode cX5_seenAs 7 = .ok (.aload_n 0, 1) := by decide +kernel
theorem dX5_seenAs_8 : decode cX5_seenAs 8 = .ok (.getfield 32, 3) := by decide +kernel
theorem dX5_seenAs_11 : decode cX5_seenAs 11 = .ok (.if_icmp .ge 27, 3) := by decide +kernel
theorem dX5_seenAs_14 : decode cX5_seenAs 14 = .ok (.aload_n 0, 1) := by decide +kernel
theorem dX5_seenAs_15 : decode cX5_seenAs 15 = .ok (.iload 4, 2) := by decide +kernel
theorem dX5_seenAs_17 : decode cX5_seenAs 17 = .ok (.iload_n 1, 1) := by decide +kernel
theorem dX5_seenAs_18 : decode cX5_seenAs 18 = .ok (.invokevirtual 40, 3) := by decide +kernel
theorem dX5_seenAs_21 : decode cX5_seenAs 21 = .ok (.iload_n 2, 1) := by decide +kernel
theorem dX5_seenAs_22 : decode cX5_seenAs 22 = .ok (.if_icmp .ne 10, 3) := by decide +kernel
theorem dX5_seenAs_25 : decode cX5_seenAs 25 = .ok (.iload_n 3, 1) := by decide +kernel
theorem dX5_seenAs_26 : decode cX5_seenAs 26 = .ok (.iconst 1, 1) := by decide +kernel
theorem dX5_seenAs_27 : decode cX5_seenAs 27 = .ok (.iload 4, 2) := by decide +kernel
theorem dX5_seenAs_29 : decode cX5_seenAs 29 = .ok (.ishl, 1) := by decide +kernel
theorem dX5_seenAs_30 : decode cX5_seenAs 30 = .ok (.ior, 1) := by decide +kernel
theorem dX5_seenAs_31 : decode cX5_seenAs 31 = .ok (.istore_n 3, 1) := by decide +kernel
theorem dX5_seenAs_32 : decode cX5_seenAs 32 = .ok (.iinc 4 1, 3) := by decide +kernel
theorem dX5_seenAs_35 : decode cX5_seenAs 35 = .ok (.goto (-30), 3) := by decide +kernel
theorem dX5_seenAs_38 : decode cX5_seenAs 38 = .ok (.iload_n 3, 1) := by decide +kernel
theorem dX5_seenAs_39 : decode cX5_seenAs 39 = .ok (.ireturn, 1) := by decide +kernel
theorem dX5_unlikeAt_0 : decode cX5_unlikeAt 0 = .ok (.iconst 0, 1) := by decide +kernel
theorem dX5_unlikeAt_1 : decode cX5_unlikeAt 1 = .ok (.istore_n 2, 1) := by decide +kernel
theorem dX5_unlikeAt_2 : decode cX5_unlikeAt 2 = .ok (.iconst 0, 1) := by decide +kernel
theorem dX5_unlikeAt_3 : decode cX5_unlikeAt 3 = .ok (.istore_n 3, 1) := by decide +kernel
theorem dX5_unlikeAt_4 : decode cX5_unlikeAt 4 = .ok (.iload_n 3, 1) := by decide +kernel
theorem dX5_unlikeAt_5 : decode cX5_unlikeAt 5 = .ok (.aload_n 0, 1) := by decide +kernel
theorem dX5_unlikeAt_6 : decode cX5_unlikeAt 6 = .ok (.getfield 32, 3) := by decide +kernel
theorem dX5_unlikeAt_9 : decode cX5_unlikeAt 9 = .ok (.if_icmp .ge 36, 3) := by decide +kernel
theorem dX5_unlikeAt_12 : decode cX5_unlikeAt 12 = .ok (.iconst 1, 1) := by decide +kernel
theorem dX5_unlikeAt_13 : decode cX5_unlikeAt 13 = .ok (.iload_n 3, 1) := by decide +kernel
theorem dX5_unlikeAt_14 : decode cX5_unlikeAt 14 = .ok (.ishl, 1) := by decide +kernel
theorem dX5_unlikeAt_15 : decode cX5_unlikeAt 15 = .ok (.iconst 1, 1) := by decide +kernel
theorem dX5_unlikeAt_16 : decode cX5_unlikeAt 16 = .ok (.isub, 1) := by decide +kernel
theorem dX5_unlikeAt_17 : decode cX5_unlikeAt 17 = .ok (.istore 4, 2) := by decide +kernel
theorem dX5_unlikeAt_19 : decode cX5_unlikeAt 19 = .ok (.aload_n 0, 1) := by decide +kernel
theorem dX5_unlikeAt_20 : decode cX5_unlikeAt 20 = .ok (.iload_n 1, 1) := by decide +kernel
theorem dX5_unlikeAt_21 : decode cX5_unlikeAt 21 = .ok (.aload_n 0, 1) := by decide +kernel
theorem dX5_unlikeAt_22 : decode cX5_unlikeAt 22 = .ok (.iload_n 3, 1) := by decide +kernel
theorem dX5_unlikeAt_23 : decode cX5_unlikeAt 23 = .ok (.iload_n 1, 1) := by decide +kernel
theorem dX5_unlikeAt_24 : decode cX5_unlikeAt 24 = .ok (.invokevirtual 40, 3) := by decide +kernel
theorem dX5_unlikeAt_27 : decode cX5_unlikeAt 27 = .ok (.invokevirtual 43, 3) := by decide +kernel
theorem dX5_unlikeAt_30 : decode cX5_unlikeAt 30 = .ok (.iload 4, 2) := by decide +kernel
theorem dX5_unlikeAt_32 : decode cX5_unlikeAt 32 = .ok (.iand, 1) := by decide +kernel
theorem dX5_unlikeAt_33 : decode cX5_unlikeAt 33 = .ok (.ifCond .ne 6, 3) := by decide +kernel
theorem dX5_unlikeAt_36 : decode cX5_unlikeAt 36 = .ok (.iinc 2 1, 3) := by decide +kernel
theorem dX5_unlikeAt_39 : decode cX5_unlikeAt 39 = .ok (.iinc 3 1, 3) := by decide +kernel
theorem dX5_unlikeAt_42 : decode cX5_unlikeAt 42 = .ok (.goto (-38), 3) := by decide +kernel
theorem dX5_unlikeAt_45 : decode cX5_unlikeAt 45 = .ok (.iload_n 2, 1) := by decide +kernel
theorem dX5_unlikeAt_46 : decode cX5_unlikeAt 46 = .ok (.ireturn, 1) := by decide +kernel
theorem dX6_init_0 : decode cX6_init 0 = .ok (.aload_n 0, 1) := by decide +kernel
theorem dX6_init_1 : decode cX6_init 1 = .ok (.invokespecial 1, 3) := by decide +kernel
theorem dX6_init_4 : decode cX6_init 4 = .ok (.aload_n 0, 1) := by decide +kernel
theorem dX6_init_5 : decode cX6_init 5 = .ok (.new 7, 3) := by decide +kernel
theorem dX6_init_8 : decode cX6_init 8 = .ok (.dup, 1) := by decide +kernel
theorem dX6_init_9 : decode cX6_init 9 = .ok (.invokespecial 9, 3) := by decide +kernel
theorem dX6_init_12 : decode cX6_init 12 = .ok (.putfield 10, 3) := by decide +kernel
theorem dX6_init_15 : decode cX6_init 15 = .ok (.aload_n 0, 1) := by decide +kernel
theorem dX6_init_16 : decode cX6_init 16 = .ok (.new 16, 3) := by decide +kernel
theorem dX6_init_19 : decode cX6_init 19 = .ok (.dup, 1) := by decide +kernel
theorem dX6_init_20 : decode cX6_init 20 = .ok (.invokespecial 18, 3) := by decide +kernel
theorem dX6_init_23 : decode cX6_init 23 = .ok (.putfield 19, 3) := by decide +kernel
theorem dX6_init_26 : decode cX6_init 26 = .ok (.aload_n 0, 1) := by decide +kernel
theorem dX6_init_27 : decode cX6_init 27 = .ok (.new 23, 3) := by decide +kernel
theorem dX6_init_30 : decode cX6_init 30 = .ok (.dup, 1) := by decide +kernel
theorem dX6_init_31 : decode cX6_init 31 = .ok (.invokespecial 25, 3) := by decide +kernel
theorem dX6_init_34 : decode cX6_init 34 = .ok (.putfield 26, 3) := by decide +kernel
theorem dX6_init_37 : decode cX6_init 37 = .ok (.return_, 1) := by decide +kernel
theorem dX6_empty_0 : decode cX6_empty 0 = .ok (.aload_n 0, 1) := by decide +kernel
theorem dX6_empty_1 : decode cX6_empty 1 = .ok (.getfield 10, 3) := by decide +kernel
theorem dX6_empty_4 : decode cX6_empty 4 = .ok (.invokevirtual 30, 3) := by decide +kernel
theorem dX6_empty_7 : decode cX6_empty 7 = .ok (.aload_n 0, 1) := by decide +kernel
theorem dX6_empty_8 : decode cX6_empty 8 = .ok (.getfield 19, 3) := by decide +kernel
theorem dX6_empty_11 : decode cX6_empty 11 = .ok (.invokevirtual 33, 3) := by decide +kernel
theorem dX6_empty_14 : decode cX6_empty 14 = .ok (.aload_n 0, 1) := by decide +kernel
theorem dX6_empty_15 : decode cX6_empty 15 = .ok (.getfield 26, 3) := by decide +kernel
theorem dX6_empty_18 : decode cX6_empty 18 = .ok (.invokevirtual 34, 3) := by decide +kernel
theorem dX6_empty_21 : decode cX6_empty 21 = .ok (.return_, 1) := by decide +kernel
theorem dX6_copyFrom_0 : decode cX6_copyFrom 0 = .ok (.aload_n 0, 1) := by decide +kernel
theorem dX6_copyFrom_1 : decode cX6_copyFrom 1 = .ok (.getfield 10, 3) := by decide +kernel
theorem dX6_copyFrom_4 : decode cX6_copyFrom 4 = .ok (.aload_n 1, 1) := by decide +kernel
theorem dX6_copyFrom_5 : decode cX6_copyFrom 5 = .ok (.getfield 10, 3) := by decide +kernel
theorem dX6_copyFrom_8 : decode cX6_copyFrom 8 = .ok (.invokevirtual 35, 3) := by decide +kernel
theorem dX6_copyFrom_11 : decode cX6_copyFrom 11 = .ok (.aload_n 0, 1) := by decide +kernel
theorem dX6_copyFrom_12 : decode cX6_copyFrom 12 = .ok (.getfield 19, 3) := by decide +kernel
theorem dX6_copyFrom_15 : decode cX6_copyFrom 15 = .ok (.aload_n 1, 1) := by decide +kernel
theorem dX6_copyFrom_16 : decode cX6_copyFrom 16 = .ok (.getfield 19, 3) := by decide +kernel
theorem dX6_copyFrom_19 : decode cX6_copyFrom 19 = .ok (.invokevirtual 39, 3) := by decide +kernel
theorem dX6_copyFrom_22 : decode cX6_copyFrom 22 = .ok (.aload_n 0, 1) := by decide +kernel
theorem dX6_copyFrom_23 : decode cX6_copyFrom 23 = .ok (.getfield 26, 3) := by decide +kernel
theorem dX6_copyFrom_26 : decode cX6_copyFrom 26 = .ok (.aload_n 1, 1) := by decide +kernel
theorem dX6_copyFrom_27 : decode cX6_copyFrom 27 = .ok (.getfield 26, 3) := by decide +kernel
theorem dX6_copyFrom_30 : decode cX6_copyFrom 30 = .ok (.invokevirtual 40, 3) := by decide +kernel
theorem dX6_copyFrom_33 : decode cX6_copyFrom 33 = .ok (.return_, 1) := by decide +kernel
theorem dX7_init_0 : decode cX7_init 0 = .ok (.aload_n 0, 1) := by decide +kernel
theorem dX7_init_1 : decode cX7_init 1 = .ok (.invokespecial 3, 3) := by decide +kernel
theorem dX7_init_4 : decode cX7_init 4 = .ok (.aload_n 0, 1) := by decide +kernel
theorem dX7_init_5 : decode cX7_init 5 = .ok (.new 9, 3) := by decide +kernel
theorem dX7_init_8 : decode cX7_init 8 = .ok (.dup, 1) := by decide +kernel
theorem dX7_init_9 : decode cX7_init 9 = .ok (.invokespecial 11, 3) := by decide +kernel
theorem dX7_init_12 : decode cX7_init 12 = .ok (.putfield 12, 3) := by decide +kernel
theorem dX7_init_15 : decode cX7_init 15 = .ok (.aload_n 0, 1) := by decide +kernel
theorem dX7_init_16 : decode cX7_init 16 = .ok (.sipush 150, 3) := by decide +kernel
theorem dX7_init_19 : decode cX7_init 19 = .ok (.newarray .byte, 2) := by decide +kernel
theorem dX7_init_21 : decode cX7_init 21 = .ok (.putfield 18, 3) := by decide +kernel
theorem dX7_init_24 : decode cX7_init 24 = .ok (.aload_n 0, 1) := by decide +kernel
theorem dX7_init_25 : decode cX7_init 25 = .ok (.iconst 0, 1) := by decide +kernel
theorem dX7_init_26 : decode cX7_init 26 = .ok (.putfield 22, 3) := by decide +kernel
theorem dX7_init_29 : decode cX7_init 29 = .ok (.aload_n 0, 1) := by decide +kernel
theorem dX7_init_30 : decode cX7_init 30 = .ok (.sipush 150, 3) := by decide +kernel
theorem dX7_init_33 : decode cX7_init 33 = .ok (.newarray .int, 2) := by decide +kernel
theorem dX7_init_35 : decode cX7_init 35 = .ok (.putfield 26, 3) := by decide +kernel
theorem dX7_init_38 : decode cX7_init 38 = .ok (.aload_n 0, 1) := by decide +kernel
theorem dX7_init_39 : decode cX7_init 39 = .ok (.sipush 150, 3) := by decide +kernel
theorem dX7_init_42 : decode cX7_init 42 = .ok (.newarray .int, 2) := by decide +kernel
theorem dX7_init_44 : decode cX7_init 44 = .ok (.putfield 30, 3) := by decide +kernel
theorem dX7_init_47 : decode cX7_init 47 = .ok (.aload_n 0, 1) := by decide +kernel
theorem dX7_init_48 : decode cX7_init 48 = .ok (.sipush 150, 3) := by decide +kernel
theorem dX7_init_51 : decode cX7_init 51 = .ok (.newarray .int, 2) := by decide +kernel
theorem dX7_init_53 : decode cX7_init 53 = .ok (.putfield 33, 3) := by decide +kernel
theorem dX7_init_56 : decode cX7_init 56 = .ok (.aload_n 0, 1) := by decide +kernel
theorem dX7_init_57 : decode cX7_init 57 = .ok (.iconst 0, 1) := by decide +kernel
theorem dX7_init_58 : decode cX7_init 58 = .ok (.putfield 36, 3) := by decide +kernel
theorem dX7_init_61 : decode cX7_init 61 = .ok (.aload_n 0, 1) := by decide +kernel
theorem dX7_init_62 : decode cX7_init 62 = .ok (.iconst 0, 1) := by decide +kernel
theorem dX7_init_63 : decode cX7_init 63 = .ok (.putfield 39, 3) := by decide +kernel
theorem dX7_init_66 : decode cX7_init 66 = .ok (.aload_n 0, 1) := by decide +kernel
theorem dX7_init_67 : decode cX7_init 67 = .ok (.iconst 0, 1) := by decide +kernel
theorem dX7_init_68 : decode cX7_init 68 = .ok (.putfield 42, 3) := by decide +kernel
theorem dX7_init_71 : decode cX7_init 71 = .ok (.return_, 1) := by decide +kernel
theorem dX7_size_0 : decode cX7_size 0 = .ok (.aload_n 0, 1) := by decide +kernel
theorem dX7_size_1 : decode cX7_size 1 = .ok (.getfield 22, 3) := by decide +kernel
theorem dX7_size_4 : decode cX7_size 4 = .ok (.ireturn, 1) := by decide +kernel
theorem dX7_empty_0 : decode cX7_empty 0 = .ok (.aload_n 0, 1) := by decide +kernel
theorem dX7_empty_1 : decode cX7_empty 1 = .ok (.iconst 0, 1) := by decide +kernel
theorem dX7_empty_2 : decode cX7_empty 2 = .ok (.putfield 22, 3) := by decide +kernel
theorem dX7_empty_5 : decode cX7_empty 5 = .ok (.return_, 1) := by decide +kernel
theorem dX7_append_0 : decode cX7_append 0 = .ok (.aload_n 0, 1) := by decide +kernel
theorem dX7_append_1 : decode cX7_append 1 = .ok (.getfield 22, 3) := by decide +kernel
theorem dX7_append_4 : decode cX7_append 4 = .ok (.sipush 150, 3) := by decide +kernel
theorem dX7_append_7 : decode cX7_append 7 = .ok (.if_icmp .ge 24, 3) := by decide +kernel
theorem dX7_append_10 : decode cX7_append 10 = .ok (.aload_n 0, 1) := by decide +kernel
theorem dX7_append_11 : decode cX7_append 11 = .ok (.getfield 18, 3) := by decide +kernel
theorem dX7_append_14 : decode cX7_append 14 = .ok (.aload_n 0, 1) := by decide +kernel
theorem dX7_append_15 : decode cX7_append 15 = .ok (.getfield 22, 3) := by decide +kernel
theorem dX7_append_18 : decode cX7_append 18 = .ok (.iload_n 1, 1) := by decide +kernel
theorem dX7_append_19 : decode cX7_append 19 = .ok (.i2b, 1) := by decide +kernel
theorem dX7_append_20 : decode cX7_append 20 = .ok (.bastore, 1) := by decide +kernel
theorem dX7_append_21 : decode cX7_append 21 = .ok (.aload_n 0, 1) := by decide +kernel
theorem dX7_append_22 : decode cX7_append 22 = .ok (.dup, 1) := by decide +kernel
theorem dX7_append_23 : decode cX7_append 23 = .ok (.getfield 22, 3) := by decide +kernel
theorem dX7_append_26 : decode cX7_append 26 = .ok (.iconst 1, 1) := by decide +kernel
theorem dX7_append_27 : decode cX7_append 27 = .ok (.iadd, 1) := by decide +kernel
theorem dX7_append_28 : decode cX7_append 28 = .ok (.putfield 22, 3) := by decide +kernel
theorem dX7_append_31 : decode cX7_append 31 = .ok (.return_, 1) := by decide +kernel
theorem dX7_tell_0 : decode cX7_tell 0 = .ok (.aload_n 0, 1) := by decide +kernel
theorem dX7_tell_1 : decode cX7_tell 1 = .ok (.getfield 12, 3) := by decide +kernel
theorem dX7_tell_4 : decode cX7_tell 4 = .ok (.invokevirtual 45, 3) := by decide +kernel
theorem dX7_tell_7 : decode cX7_tell 7 = .ok (.aload_n 0, 1) := by decide +kernel
theorem dX7_tell_8 : decode cX7_tell 8 = .ok (.invokevirtual 48, 3) := by decide +kernel
theorem dX7_tell_11 : decode cX7_tell 11 = .ok (.aload_n 0, 1) := by decide +kernel
theorem dX7_tell_12 : decode cX7_tell 12 = .ok (.iconst 0, 1) := by decide +kernel
theorem dX7_tell_13 : decode cX7_tell 13 = .ok (.putfield 39, 3) := by decide +kernel
theorem dX7_tell_16 : decode cX7_tell 16 = .ok (.aload_n 0, 1) := by decide +kernel
theorem dX7_tell_17 : decode cX7_tell 17 = .ok (.ldc 51, 2) := by decide +kernel
theorem dX7_tell_19 : decode cX7_tell 19 = .ok (.invokevirtual 53, 3) := by decide +kernel
theorem dX7_tell_22 : decode cX7_tell 22 = .ok (.ifCond .eq 14, 3) := by decide +kernel
theorem dX7_tell_25 : decode cX7_tell 25 = .ok (.aload_n 0, 1) := by decide +kernel
theorem dX7_tell_26 : decode cX7_tell 26 = .ok (.invokevirtual 57, 3) := by decide +kernel
theorem dX7_tell_29 : decode cX7_tell 29 = .ok (.ifCond .eq 7, 3) := by decide +kernel
theorem dX7_tell_32 : decode cX7_tell 32 = .ok (.iconst 1, 1) := by decide +kernel
theorem dX7_tell_33 : decode cX7_tell 33 = .ok (.goto 4, 3) := by decide +kernel
theorem dX7_tell_36 : decode cX7_tell 36 = .ok (.iconst 0, 1) := by decide +kernel
theorem dX7_tell_37 : decode cX7_tell 37 = .ok (.istore_n 1, 1) := by decide +kernel
theorem dX7_tell_38 : decode cX7_tell 38 = .ok (.iconst 1, 1) := by decide +kernel
theorem dX7_tell_39 : decode cX7_tell 39 = .ok (.istore_n 2, 1) := by decide +kernel
theorem dX7_tell_40 : decode cX7_tell 40 = .ok (.iload_n 1, 1) := by decide +kernel
theorem dX7_tell_41 : decode cX7_tell 41 = .ok (.ifCond .eq 32, 3) := by decide +kernel
theorem dX7_tell_44 : decode cX7_tell 44 = .ok (.aload_n 0, 1) := by decide +kernel
theorem dX7_tell_45 : decode cX7_tell 45 = .ok (.getfield 39, 3) := by decide +kernel
theorem dX7_tell_48 : decode cX7_tell 48 = .ok (.aload_n 0, 1) := by decide +kernel
theorem dX7_tell_49 : decode cX7_tell 49 = .ok (.getfield 36, 3) := by decide +kernel
theorem dX7_tell_52 : decode cX7_tell 52 = .ok (.if_icmp .ge 21, 3) := by decide +kernel
theorem dX7_tell_55 : decode cX7_tell 55 = .ok (.iload_n 2, 1) := by decide +kernel
theorem dX7_tell_56 : decode cX7_tell 56 = .ok (.sipush 150, 3) := by decide +kernel
theorem dX7_tell_59 : decode cX7_tell 59 = .ok (.if_icmp .ge 14, 3) := by decide +kernel
theorem dX7_tell_62 : decode cX7_tell 62 = .ok (.aload_n 0, 1) := by decide +kernel
theorem dX7_tell_63 : decode cX7_tell 63 = .ok (.invokevirtual 61, 3) := by decide +kernel
theorem dX7_tell_66 : decode cX7_tell 66 = .ok (.istore_n 1, 1) := by decide +kernel
theorem dX7_tell_67 : decode cX7_tell 67 = .ok (.iinc 2 1, 3) := by decide +kernel
theorem dX7_tell_70 : decode cX7_tell 70 = .ok (.goto (-30), 3) := by decide +kernel
theorem dX7_tell_73 : decode cX7_tell 73 = .ok (.iload_n 1, 1) := by decide +kernel
theorem dX7_tell_74 : decode cX7_tell 74 = .ok (.ifCond .eq 7, 3) := by decide +kernel
theorem dX7_tell_77 : decode cX7_tell 77 = .ok (.iload_n 2, 1) := by decide +kernel
theorem dX7_tell_78 : decode cX7_tell 78 = .ok (.goto 14, 3) := by decide +kernel
theorem dX7_tell_81 : decode cX7_tell 81 = .ok (.bipush (-10), 2) := by decide +kernel
theorem dX7_tell_83 : decode cX7_tell 83 = .ok (.aload_n 0, 1) := by decide +kernel
theorem dX7_tell_84 : decode cX7_tell 84 = .ok (.aload_n 0, 1) := by decide +kernel
theorem dX7_tell_85 : decode cX7_tell 85 = .ok (.getfield 39, 3) := by decide +kernel
theorem dX7_tell_88 : decode cX7_tell 88 = .ok (.invokevirtual 64, 3) := by decide +kernel
theorem dX7_tell_91 : decode cX7_tell 91 = .ok (.isub, 1) := by decide +kernel
theorem dX7_tell_92 : decode cX7_tell 92 = .ok (.ireturn, 1) := by decide +kernel
theorem dX7_startOf_0 : decode cX7_startOf 0 = .ok (.iload_n 1, 1) := by decide +kernel
theorem dX7_startOf_1 : decode cX7_startOf 1 = .ok (.aload_n 0, 1) := by decide +kernel
theorem dX7_startOf_2 : decode cX7_startOf 2 = .ok (.getfield 36, 3) := by decide +kernel
theorem dX7_startOf_5 : decode cX7_startOf 5 = .ok (.invokestatic 68, 3) := by decide +kernel
theorem dX7_startOf_8 : decode cX7_startOf 8 = .ok (.ifCond .eq 12, 3) := by decide +kernel
theorem dX7_startOf_11 : decode cX7_startOf 11 = .ok (.aload_n 0, 1) := by decide +kernel
theorem dX7_startOf_12 : decode cX7_startOf 12 = .ok (.getfield 30, 3) := by decide +kernel
theorem dX7_startOf_15 : decode cX7_startOf 15 = .ok (.iload_n 1, 1) := by decide +kernel
theorem dX7_startOf_16 : decode cX7_startOf 16 = .ok (.iaload, 1) := by decide +kernel
theorem dX7_startOf_17 : decode cX7_startOf 17 = .ok (.goto 7, 3) := by decide +kernel
theorem dX7_startOf_20 : decode cX7_startOf 20 = .ok (.aload_n 0, 1) := by decide +kernel
theorem dX7_startOf_21 : decode cX7_startOf 21 = .ok (.getfield 22, 3) := by decide +kernel
theorem dX7_startOf_24 : decode cX7_startOf 24 = .ok (.ireturn, 1) := by decide +kernel
theorem dX7_byteAt_0 : decode cX7_byteAt 0 = .ok (.iload_n 1, 1) := by decide +kernel
theorem dX7_byteAt_1 : decode cX7_byteAt 1 = .ok (.aload_n 0, 1) := by decide +kernel
theorem dX7_byteAt_2 : decode cX7_byteAt 2 = .ok (.getfield 22, 3) := by decide +kernel
theorem dX7_byteAt_5 : decode cX7_byteAt 5 = .ok (.invokestatic 68, 3) := by decide +kernel
theorem dX7_byteAt_8 : decode cX7_byteAt 8 = .ok (.ifCond .eq 12, 3) := by decide +kernel
theorem dX7_byteAt_11 : decode cX7_byteAt 11 = .ok (.aload_n 0, 1) := by decide +kernel
theorem dX7_byteAt_12 : decode cX7_byteAt 12 = .ok (.getfield 18, 3) := by decide +kernel
theorem dX7_byteAt_15 : decode cX7_byteAt 15 = .ok (.iload_n 1, 1) := by decide +kernel
theorem dX7_byteAt_16 : decode cX7_byteAt 16 = .ok (.baload, 1) := by decide +kernel
theorem dX7_byteAt_17 : decode cX7_byteAt 17 = .ok (.goto 4, 3) := by decide +kernel
theorem dX7_byteAt_20 : decode cX7_byteAt 20 = .ok (.iconst (-1), 1) := by decide +kernel
theorem dX7_byteAt_21 : decode cX7_byteAt 21 = .ok (.ireturn, 1) := by decide +kernel
theorem dX7_split_0 : decode cX7_split 0 = .ok (.aload_n 0, 1) := by decide +kernel
theorem dX7_split_1 : decode cX7_split 1 = .ok (.iconst 0, 1) := by decide +kernel
theorem dX7_split_2 : decode cX7_split 2 = .ok (.putfield 36, 3) := by decide +kernel
theorem dX7_split_5 : decode cX7_split 5 = .ok (.iconst 0, 1) := by decide +kernel
theorem dX7_split_6 : decode cX7_split 6 = .ok (.istore_n 1, 1) := by decide +kernel
theorem dX7_split_7 : decode cX7_split 7 = .ok (.iconst 0, 1) := by decide +kernel
theorem dX7_split_8 : decode cX7_split 8 = .ok (.istore_n 2, 1) := by decide +kernel
theorem dX7_split_9 : decode cX7_split 9 = .ok (.iload_n 2, 1) := by decide +kernel
theorem dX7_split_10 : decode cX7_split 10 = .ok (.aload_n 0, 1) := by decide +kernel
theorem dX7_split_11 : decode cX7_split 11 = .ok (.getfield 22, 3) := by decide +kernel
theorem dX7_split_14 : decode cX7_split 14 = .ok (.if_icmp .ge 83, 3) := by decide +kernel
theorem dX7_split_17 : decode cX7_split 17 = .ok (.aload_n 0, 1) := by decide +kernel
theorem dX7_split_18 : decode cX7_split 18 = .ok (.getfield 18, 3) := by decide +kernel
theorem dX7_split_21 : decode cX7_split 21 = .ok (.iload_n 2, 1) := by decide +kernel
theorem dX7_split_22 : decode cX7_split 22 = .ok (.baload, 1) := by decide +kernel
theorem dX7_split_23 : decode cX7_split 23 = .ok (.invokestatic 72, 3) := by decide +kernel
theorem dX7_split_26 : decode cX7_split 26 = .ok (.istore_n 3, 1) := by decide +kernel
theorem dX7_split_27 : decode cX7_split 27 = .ok (.iload_n 3, 1) := by decide +kernel
theorem dX7_split_28 : decode cX7_split 28 = .ok (.iload_n 1, 1) := by decide +kernel
theorem dX7_split_29 : decode cX7_split 29 = .ok (.if_icmp .ne 17, 3) := by decide +kernel
theorem dX7_split_32 : decode cX7_split 32 = .ok (.iload_n 3, 1) := by decide +kernel
theorem dX7_split_33 : decode cX7_split 33 = .ok (.iconst 1, 1) := by decide +kernel
theorem dX7_split_34 : decode cX7_split 34 = .ok (.if_icmp .eq 8, 3) := by decide +kernel
theorem dX7_split_37 : decode cX7_split 37 = .ok (.iload_n 3, 1) := by decide +kernel
theorem dX7_split_38 : decode cX7_split 38 = .ok (.iconst 2, 1) := by decide +kernel
theorem dX7_split_39 : decode cX7_split 39 = .ok (.if_icmp .ne 7, 3) := by decide +kernel
theorem dX7_split_42 : decode cX7_split 42 = .ok (.iconst 1, 1) := by decide +kernel
theorem dX7_split_43 : decode cX7_split 43 = .ok (.goto 4, 3) := by decide +kernel
theorem dX7_split_46 : decode cX7_split 46 = .ok (.iconst 0, 1) := by decide +kernel
theorem dX7_split_47 : decode cX7_split 47 = .ok (.istore 4, 2) := by decide +kernel
theorem dX7_split_49 : decode cX7_split 49 = .ok (.iload 4, 2) := by decide +kernel
theorem dX7_split_51 : decode cX7_split 51 = .ok (.ifCond .eq 28, 3) := by decide +kernel
theorem dX7_split_54 : decode cX7_split 54 = .ok (.aload_n 0, 1) := by decide +kernel
theorem dX7_split_55 : decode cX7_split 55 = .ok (.getfield 36, 3) := by decide +kernel
theorem dX7_split_58 : decode cX7_split 58 = .ok (.ifCond .le 21, 3) := by decide +kernel
theorem dX7_split_61 : decode cX7_split 61 = .ok (.aload_n 0, 1) := by decide +kernel
theorem dX7_split_62 : decode cX7_split 62 = .ok (.getfield 33, 3) := by decide +kernel
theorem dX7_split_65 : decode cX7_split 65 = .ok (.aload_n 0, 1) := by decide +kernel
theorem dX7_split_66 : decode cX7_split 66 = .ok (.getfield 36, 3) := by decide +kernel
theorem dX7_split_69 : decode cX7_split 69 = .ok (.iconst 1, 1) := by decide +kernel
theorem dX7_split_70 : decode cX7_split 70 = .ok (.isub, 1) := by decide +kernel
theorem dX7_split_71 : decode cX7_split 71 = .ok (.dup2, 1) := by decide +kernel
theorem dX7_split_72 : decode cX7_split 72 = .ok (.iaload, 1) := by decide +kernel
theorem dX7_split_73 : decode cX7_split 73 = .ok (.iconst 1, 1) := by decide +kernel
theorem dX7_split_74 : decode cX7_split 74 = .ok (.iadd, 1) := by decide +kernel
theorem dX7_split_75 : decode cX7_split 75 = .ok (.iastore, 1) := by decide +kernel
theorem dX7_split_76 : decode cX7_split 76 = .ok (.goto 13, 3) := by decide +kernel
theorem dX7_split_79 : decode cX7_split 79 = .ok (.iload_n 3, 1) := by decide +kernel
theorem dX7_split_80 : decode cX7_split 80 = .ok (.ifCond .eq 9, 3) := by decide +kernel
theorem dX7_split_83 : decode cX7_split 83 = .ok (.aload_n 0, 1) := by decide +kernel
theorem dX7_split_84 : decode cX7_split 84 = .ok (.iload_n 3, 1) := by decide +kernel
theorem dX7_split_85 : decode cX7_split 85 = .ok (.iload_n 2, 1) := by decide +kernel
theorem dX7_split_86 : decode cX7_split 86 = .ok (.invokevirtual 75, 3) := by decide +kernel
theorem dX7_split_89 : decode cX7_split 89 = .ok (.iload_n 3, 1) := by decide +kernel
theorem dX7_split_90 : decode cX7_split 90 = .ok (.istore_n 1, 1) := by decide +kernel
theorem dX7_split_91 : decode cX7_split 91 = .ok (.iinc 2 1, 3) := by decide +kernel
theorem dX7_split_94 : decode cX7_split 94 = .ok (.goto (-85), 3) := by decide +kernel
theorem dX7_split_97 : decode cX7_split 97 = .ok (.return_, 1) := by decide +kernel
theorem dX7_begin_0 : decode cX7_begin 0 = .ok (.aload_n 0, 1) := by decide +kernel
theorem dX7_begin_1 : decode cX7_begin 1 = .ok (.getfield 36, 3) := by decide +kernel
theorem dX7_begin_4 : decode cX7_begin 4 = .ok (.sipush 150, 3) := by decide +kernel
theorem dX7_begin_7 : decode cX7_begin 7 = .ok (.if_icmp .ge 43, 3) := by decide +kernel
theorem dX7_begin_10 : decode cX7_begin 10 = .ok (.aload_n 0, 1) := by decide +kernel
theorem dX7_begin_11 : decode cX7_begin 11 = .ok (.getfield 26, 3) := by decide +kernel
theorem dX7_begin_14 : decode cX7_begin 14 = .ok (.aload_n 0, 1) := by decide +kernel
theorem dX7_begin_15 : decode cX7_begin 15 = .ok (.getfield 36, 3) := by decide +kernel
theorem dX7_begin_18 : decode cX7_begin 18 = .ok (.iload_n 1, 1) := by decide +kernel
theorem dX7_begin_19 : decode cX7_begin 19 = .ok (.iastore, 1) := by decide +kernel
theorem dX7_begin_20 : decode cX7_begin 20 = .ok (.aload_n 0, 1) := by decide +kernel
theorem dX7_begin_21 : decode cX7_begin 21 = .ok (.getfield 30, 3) := by decide +kernel
theorem dX7_begin_24 : decode cX7_begin 24 = .ok (.aload_n 0, 1) := by decide +kernel
theorem dX7_begin_25 : decode cX7_begin 25 = .ok (.getfield 36, 3) := by decide +kernel
theorem dX7_begin_28 : decode cX7_begin 28 = .ok (.iload_n 2, 1) := by decide +kernel
theorem dX7_begin_29 : decode cX7_begin 29 = .ok (.iastore, 1) := by decide +kernel
theorem dX7_begin_30 : decode cX7_begin 30 = .ok (.aload_n 0, 1) := by decide +kernel
theorem dX7_begin_31 : decode cX7_begin 31 = .ok (.getfield 33, 3) := by decide +kernel
theorem dX7_begin_34 : decode cX7_begin 34 = .ok (.aload_n 0, 1) := by decide +kernel
theorem dX7_begin_35 : decode cX7_begin 35 = .ok (.getfield 36, 3) := by decide +kernel
theorem dX7_begin_38 : decode cX7_begin 38 = .ok (.iconst 1, 1) := by decide +kernel
theorem dX7_begin_39 : decode cX7_begin 39 = .ok (.iastore, 1) := by decide +kernel
theorem dX7_begin_40 : decode cX7_begin 40 = .ok (.aload_n 0, 1) := by decide +kernel
theorem dX7_begin_41 : decode cX7_begin 41 = .ok (.dup, 1) := by decide +kernel
theorem dX7_begin_42 : decode cX7_begin 42 = .ok (.getfield 36, 3) := by decide +kernel
theorem dX7_begin_45 : decode cX7_begin 45 = .ok (.iconst 1, 1) := by decide +kernel
theorem dX7_begin_46 : decode cX7_begin 46 = .ok (.iadd, 1) := by decide +kernel
theorem dX7_begin_47 : decode cX7_begin 47 = .ok (.putfield 36, 3) := by decide +kernel
theorem dX7_begin_50 : decode cX7_begin 50 = .ok (.return_, 1) := by decide +kernel
theorem dX7_sortOf_0 : decode cX7_sortOf 0 = .ok (.iload_n 0, 1) := by decide +kernel
theorem dX7_sortOf_1 : decode cX7_sortOf 1 = .ok (.bipush 97, 2) := by decide +kernel
theorem dX7_sortOf_3 : decode cX7_sortOf 3 = .ok (.bipush 122, 2) := by decide +kernel
theorem dX7_sortOf_5 : decode cX7_sortOf 5 = .ok (.invokestatic 79, 3) := by decide +kernel
theorem dX7_sortOf_8 : decode cX7_sortOf 8 = .ok (.ifCond .eq 5, 3) := by decide +kernel
theorem dX7_sortOf_11 : decode cX7_sortOf 11 = .ok (.iconst 1, 1) := by decide +kernel
theorem dX7_sortOf_12 : decode cX7_sortOf 12 = .ok (.ireturn, 1) := by decide +kernel
theorem dX7_sortOf_13 : decode cX7_sortOf 13 = .ok (.iload_n 0, 1) := by decide +kernel
theorem dX7_sortOf_14 : decode cX7_sortOf 14 = .ok (.bipush 48, 2) := by decide +kernel
theorem dX7_sortOf_16 : decode cX7_sortOf 16 = .ok (.bipush 57, 2) := by decide +kernel
theorem dX7_sortOf_18 : decode cX7_sortOf 18 = .ok (.invokestatic 79, 3) := by decide +kernel
theorem dX7_sortOf_21 : decode cX7_sortOf 21 = .ok (.ifCond .eq 5, 3) := by decide +kernel
theorem dX7_sortOf_24 : decode cX7_sortOf 24 = .ok (.iconst 2, 1) := by decide +kernel
theorem dX7_sortOf_25 : decode cX7_sortOf 25 = .ok (.ireturn, 1) := by decide +kernel
theorem dX7_sortOf_26 : decode cX7_sortOf 26 = .ok (.iload_n 0, 1) := by decide +kernel
theorem dX7_sortOf_27 : decode cX7_sortOf 27 = .ok (.bipush 59, 2) := by decide +kernel
theorem dX7_sortOf_29 : decode cX7_sortOf 29 = .ok (.if_icmp .ne 5, 3) := by decide +kernel
theorem dX7_sortOf_32 : decode cX7_sortOf 32 = .ok (.iconst 3, 1) := by decide +kernel
theorem dX7_sortOf_33 : decode cX7_sortOf 33 = .ok (.ireturn, 1) := by decide +kernel
theorem dX7_sortOf_34 : decode cX7_sortOf 34 = .ok (.iload_n 0, 1) := by decide +kernel
theorem dX7_sortOf_35 : decode cX7_sortOf 35 = .ok (.bipush 32, 2) := by decide +kernel
theorem dX7_sortOf_37 : decode cX7_sortOf 37 = .ok (.if_icmp .ne 7, 3) := by decide +kernel
theorem dX7_sortOf_40 : decode cX7_sortOf 40 = .ok (.iconst 0, 1) := by decide +kernel
theorem dX7_sortOf_41 : decode cX7_sortOf 41 = .ok (.goto 4, 3) := by decide +kernel
theorem dX7_sortOf_44 : decode cX7_sortOf 44 = .ok (.iconst 4, 1) := by decide +kernel
theorem dX7_sortOf_45 : decode cX7_sortOf 45 = .ok (.ireturn, 1) := by decide +kernel
theorem dX7_takesItem_0 : decode cX7_takesItem 0 = .ok (.aload_n 0, 1) := by decide +kernel
theorem dX7_takesItem_1 : decode cX7_takesItem 1 = .ok (.getfield 12, 3) := by decide +kernel
theorem dX7_takesItem_4 : decode cX7_takesItem 4 = .ok (.invokevirtual 83, 3) := by decide +kernel
theorem dX7_takesItem_7 : decode cX7_takesItem 7 = .ok (.ifCond .ne 17, 3) := by decide +kernel
theorem dX7_takesItem_10 : decode cX7_takesItem 10 = .ok (.aload_n 0, 1) := by decide +kernel
theorem dX7_takesItem_11 : decode cX7_takesItem 11 = .ok (.ldc 86, 2) := by decide +kernel
theorem dX7_takesItem_13 : decode cX7_takesItem 13 = .ok (.invokevirtual 53, 3) := by decide +kernel
theorem dX7_takesItem_16 : decode cX7_takesItem 16 = .ok (.ifCond .eq 8, 3) := by decide +kernel
theorem dX7_takesItem_19 : decode cX7_takesItem 19 = .ok (.aload_n 0, 1) := by decide +kernel
theorem dX7_takesItem_20 : decode cX7_takesItem 20 = .ok (.invokevirtual 88, 3) := by decide +kernel
theorem dX7_takesItem_23 : decode cX7_takesItem 23 = .ok (.ireturn, 1) := by decide +kernel
theorem dX7_takesItem_24 : decode cX7_takesItem 24 = .ok (.aload_n 0, 1) := by decide +kernel
theorem dX7_takesItem_25 : decode cX7_takesItem 25 = .ok (.ldc 91, 2) := by decide +kernel
theorem dX7_takesItem_27 : decode cX7_takesItem 27 = .ok (.invokevirtual 53, 3) := by decide +kernel
theorem dX7_takesItem_30 : decode cX7_takesItem 30 = .ok (.ifCond .eq 14, 3) := by decide +kernel
theorem dX7_takesItem_33 : decode cX7_takesItem 33 = .ok (.aload_n 0, 1) := by decide +kernel
theorem dX7_takesItem_34 : decode cX7_takesItem 34 = .ok (.invokevirtual 93, 3) := by decide +kernel
theorem dX7_takesItem_37 : decode cX7_takesItem 37 = .ok (.ifCond .eq 7, 3) := by decide +kernel
theorem dX7_takesItem_40 : decode cX7_takesItem 40 = .ok (.iconst 1, 1) := by decide +kernel
theorem dX7_takesItem_41 : decode cX7_takesItem 41 = .ok (.goto 4, 3) := by decide +kernel
theorem dX7_takesItem_44 : decode cX7_takesItem 44 = .ok (.iconst 0, 1) := by decide +kernel
theorem dX7_takesItem_45 : decode cX7_takesItem 45 = .ok (.ireturn, 1) := by decide +kernel
theorem dX7_takesStick_0 : decode cX7_takesStick 0 = .ok (.aload_n 0, 1) := by decide +kernel
theorem dX7_takesStick_1 : decode cX7_takesStick 1 = .ok (.iconst 0, 1) := by decide +kernel
theorem dX7_takesStick_2 : decode cX7_takesStick 2 = .ok (.iconst 5, 1) := by decide +kernel
theorem dX7_takesStick_3 : decode cX7_takesStick 3 = .ok (.invokevirtual 96, 3) := by decide +kernel
theorem dX7_takesStick_6 : decode cX7_takesStick 6 = .ok (.ifCond .ne 5, 3) := by decide +kernel
theorem dX7_takesStick_9 : decode cX7_takesStick 9 = .ok (.iconst 0, 1) := by decide +kernel
theorem dX7_takesStick_10 : decode cX7_takesStick 10 = .ok (.ireturn, 1) := by decide +kernel
theorem dX7_takesStick_11 : decode cX7_takesStick 11 = .ok (.aload_n 0, 1) := by decide +kernel
theorem dX7_takesStick_12 : decode cX7_takesStick 12 = .ok (.getfield 42, 3) := by decide +kernel
theorem dX7_takesStick_15 : decode cX7_takesStick 15 = .ok (.istore_n 1, 1) := by decide +kernel
theorem dX7_takesStick_16 : decode cX7_takesStick 16 = .ok (.aload_n 0, 1) := by decide +kernel
theorem dX7_takesStick_17 : decode cX7_takesStick 17 = .ok (.iconst 1, 1) := by decide +kernel
theorem dX7_takesStick_18 : decode cX7_takesStick 18 = .ok (.bipush 9, 2) := by decide +kernel
theorem dX7_takesStick_20 : decode cX7_takesStick 20 = .ok (.invokevirtual 96, 3) := by decide +kernel
theorem dX7_takesStick_23 : decode cX7_takesStick 23 = .ok (.ifCond .ne 5, 3) := by decide +kernel
theorem dX7_takesStick_26 : decode cX7_takesStick 26 = .ok (.iconst 0, 1) := by decide +kernel
theorem dX7_takesStick_27 : decode cX7_takesStick 27 = .ok (.ireturn, 1) := by decide +kernel
theorem dX7_takesStick_28 : decode cX7_takesStick 28 = .ok (.aload_n 0, 1) := by decide +kernel
theorem dX7_takesStick_29 : decode cX7_takesStick 29 = .ok (.getfield 42, 3) := by decide +kernel
theorem dX7_takesStick_32 : decode cX7_takesStick 32 = .ok (.istore_n 2, 1) := by decide +kernel
theorem dX7_takesStick_33 : decode cX7_takesStick 33 = .ok (.iconst 0, 1) := by decide +kernel
theorem dX7_takesStick_34 : decode cX7_takesStick 34 = .ok (.istore_n 3, 1) := by decide +kernel
theorem dX7_takesStick_35 : decode cX7_takesStick 35 = .ok (.iconst 0, 1) := by decide +kernel
theorem dX7_takesStick_36 : decode cX7_takesStick 36 = .ok (.istore 4, 2) := by decide +kernel
theorem dX7_takesStick_38 : decode cX7_takesStick 38 = .ok (.iload 4, 2) := by decide +kernel
theorem dX7_takesStick_40 : decode cX7_takesStick 40 = .ok (.iconst 5, 1) := by decide +kernel
theorem dX7_takesStick_41 : decode cX7_takesStick 41 = .ok (.if_icmp .ge 28, 3) := by decide +kernel
theorem dX7_takesStick_44 : decode cX7_takesStick 44 = .ok (.aload_n 0, 1) := by decide +kernel
theorem dX7_takesStick_45 : decode cX7_takesStick 45 = .ok (.iconst 1, 1) := by decide +kernel
theorem dX7_takesStick_46 : decode cX7_takesStick 46 = .ok (.iconst 4, 1) := by decide +kernel
theorem dX7_takesStick_47 : decode cX7_takesStick 47 = .ok (.invokevirtual 96, 3) := by decide +kernel
theorem dX7_takesStick_50 : decode cX7_takesStick 50 = .ok (.ifCond .eq 19, 3) := by decide +kernel
theorem dX7_takesStick_53 : decode cX7_takesStick 53 = .ok (.iload_n 3, 1) := by decide +kernel
theorem dX7_takesStick_54 : decode cX7_takesStick 54 = .ok (.bipush 10, 2) := by decide +kernel
theorem dX7_takesStick_56 : decode cX7_takesStick 56 = .ok (.imul, 1) := by decide +kernel
theorem dX7_takesStick_57 : decode cX7_takesStick 57 = .ok (.aload_n 0, 1) := by decide +kernel
theorem dX7_takesStick_58 : decode cX7_takesStick 58 = .ok (.getfield 42, 3) := by decide +kernel
theorem dX7_takesStick_61 : decode cX7_takesStick 61 = .ok (.iadd, 1) := by decide +kernel
theorem dX7_takesStick_62 : decode cX7_takesStick 62 = .ok (.istore_n 3, 1) := by decide +kernel
theorem dX7_takesStick_63 : decode cX7_takesStick 63 = .ok (.iinc 4 1, 3) := by decide +kernel
theorem dX7_takesStick_66 : decode cX7_takesStick 66 = .ok (.goto (-28), 3) := by decide +kernel
theorem dX7_takesStick_69 : decode cX7_takesStick 69 = .ok (.iload 4, 2) := by decide +kernel
theorem dX7_takesStick_71 : decode cX7_takesStick 71 = .ok (.ifCond .eq 10, 3) := by decide +kernel
theorem dX7_takesStick_74 : decode cX7_takesStick 74 = .ok (.aload_n 0, 1) := by decide +kernel
theorem dX7_takesStick_75 : decode cX7_takesStick 75 = .ok (.invokevirtual 57, 3) := by decide +kernel
theorem dX7_takesStick_78 : decode cX7_takesStick 78 = .ok (.ifCond .ne 5, 3) := by decide +kernel
theorem dX7_takesStick_81 : decode cX7_takesStick 81 = .ok (.iconst 0, 1) := by decide +kernel
theorem dX7_takesStick_82 : decode cX7_takesStick 82 = .ok (.ireturn, 1) := by decide +kernel
theorem dX7_takesStick_83 : decode cX7_takesStick 83 = .ok (.aload_n 0, 1) := by decide +kernel
theorem dX7_takesStick_84 : decode cX7_takesStick 84 = .ok (.getfield 12, 3) := by decide +kernel
theorem dX7_takesStick_87 : decode cX7_takesStick 87 = .ok (.iload_n 1, 1) := by decide +kernel
theorem dX7_takesStick_88 : decode cX7_takesStick 88 = .ok (.iload_n 3, 1) := by decide +kernel
theorem dX7_takesStick_89 : decode cX7_takesStick 89 = .ok (.iload_n 2, 1) := by decide +kernel
theorem dX7_takesStick_90 : decode cX7_takesStick 90 = .ok (.iconst 0, 1) := by decide +kernel
theorem dX7_takesStick_91 : decode cX7_takesStick 91 = .ok (.invokevirtual 99, 3) := by decide +kernel
theorem dX7_takesStick_94 : decode cX7_takesStick 94 = .ok (.pop, 1) := by decide +kernel
theorem dX7_takesStick_95 : decode cX7_takesStick 95 = .ok (.iconst 1, 1) := by decide +kernel
theorem dX7_takesStick_96 : decode cX7_takesStick 96 = .ok (.ireturn, 1) := by decide +kernel
theorem dX7_takesSuck_0 : decode cX7_takesSuck 0 = .ok (.aload_n 0, 1) := by decide +kernel
theorem dX7_takesSuck_1 : decode cX7_takesSuck 1 = .ok (.iconst 0, 1) := by decide +kernel
theorem dX7_takesSuck_2 : decode cX7_takesSuck 2 = .ok (.aload_n 0, 1) := by decide +kernel
theorem dX7_takesSuck_3 : decode cX7_takesSuck 3 = .ok (.getfield 12, 3) := by decide +kernel
theorem dX7_takesSuck_6 : decode cX7_takesSuck 6 = .ok (.invokevirtual 103, 3) := by decide +kernel
theorem dX7_takesSuck_9 : decode cX7_takesSuck 9 = .ok (.iconst 1, 1) := by decide +kernel
theorem dX7_takesSuck_10 : decode cX7_takesSuck 10 = .ok (.isub, 1) := by decide +kernel
theorem dX7_takesSuck_11 : decode cX7_takesSuck 11 = .ok (.invokevirtual 96, 3) := by decide +kernel
theorem dX7_takesSuck_14 : decode cX7_takesSuck 14 = .ok (.ifCond .ne 5, 3) := by decide +kernel
theorem dX7_takesSuck_17 : decode cX7_takesSuck 17 = .ok (.iconst 0, 1) := by decide +kernel
theorem dX7_takesSuck_18 : decode cX7_takesSuck 18 = .ok (.ireturn, 1) := by decide +kernel
theorem dX7_takesSuck_19 : decode cX7_takesSuck 19 = .ok (.aload_n 0, 1) := by decide +kernel
theorem dX7_takesSuck_20 : decode cX7_takesSuck 20 = .ok (.getfield 42, 3) := by decide +kernel
theorem dX7_takesSuck_23 : decode cX7_takesSuck 23 = .ok (.istore_n 1, 1) := by decide +kernel
theorem dX7_takesSuck_24 : decode cX7_takesSuck 24 = .ok (.aload_n 0, 1) := by decide +kernel
theorem dX7_takesSuck_25 : decode cX7_takesSuck 25 = .ok (.iconst 1, 1) := by decide +kernel
theorem dX7_takesSuck_26 : decode cX7_takesSuck 26 = .ok (.bipush 9, 2) := by decide +kernel
theorem dX7_takesSuck_28 : decode cX7_takesSuck 28 = .ok (.invokevirtual 96, 3) := by decide +kernel
theorem dX7_takesSuck_31 : decode cX7_takesSuck 31 = .ok (.ifCond .eq 10, 3) := by decide +kernel
theorem dX7_takesSuck_34 : decode cX7_takesSuck 34 = .ok (.aload_n 0, 1) := by decide +kernel
theorem dX7_takesSuck_35 : decode cX7_takesSuck 35 = .ok (.invokevirtual 57, 3) := by decide +kernel
theorem dX7_takesSuck_38 : decode cX7_takesSuck 38 = .ok (.ifCond .ne 5, 3) := by decide +kernel
theorem dX7_takesSuck_41 : decode cX7_takesSuck 41 = .ok (.iconst 0, 1) := by decide +kernel
theorem dX7_takesSuck_42 : decode cX7_takesSuck 42 = .ok (.ireturn, 1) := by decide +kernel
theorem dX7_takesSuck_43 : decode cX7_takesSuck 43 = .ok (.aload_n 0, 1) := by decide +kernel
theorem dX7_takesSuck_44 : decode cX7_takesSuck 44 = .ok (.getfield 12, 3) := by decide +kernel
theorem dX7_takesSuck_47 : decode cX7_takesSuck 47 = .ok (.iload_n 1, 1) := by decide +kernel
theorem dX7_takesSuck_48 : decode cX7_takesSuck 48 = .ok (.aload_n 0, 1) := by decide +kernel
theorem dX7_takesSuck_49 : decode cX7_takesSuck 49 = .ok (.getfield 42, 3) := by decide +kernel
theorem dX7_takesSuck_52 : decode cX7_takesSuck 52 = .ok (.invokevirtual 106, 3) := by decide +kernel
theorem dX7_takesSuck_55 : decode cX7_takesSuck 55 = .ok (.iconst 1, 1) := by decide +kernel
theorem dX7_takesSuck_56 : decode cX7_takesSuck 56 = .ok (.ireturn, 1) := by decide +kernel
theorem dX7_takesWord_0 : decode cX7_takesWord 0 = .ok (.aload_n 0, 1) := by decide +kernel
theorem dX7_takesWord_1 : decode cX7_takesWord 1 = .ok (.getfield 39, 3) := by decide +kernel
theorem dX7_takesWord_4 : decode cX7_takesWord 4 = .ok (.aload_n 0, 1) := by decide +kernel
theorem dX7_takesWord_5 : decode cX7_takesWord 5 = .ok (.getfield 36, 3) := by decide +kernel
theorem dX7_takesWord_8 : decode cX7_takesWord 8 = .ok (.if_icmp .ge 19, 3) := by decide +kernel
theorem dX7_takesWord_11 : decode cX7_takesWord 11 = .ok (.aload_n 0, 1) := by decide +kernel
theorem dX7_takesWord_12 : decode cX7_takesWord 12 = .ok (.getfield 33, 3) := by decide +kernel
theorem dX7_takesWord_15 : decode cX7_takesWord 15 = .ok (.aload_n 0, 1) := by decide +kernel
theorem dX7_takesWord_16 : decode cX7_takesWord 16 = .ok (.getfield 39, 3) := by decide +kernel
theorem dX7_takesWord_19 : decode cX7_takesWord 19 = .ok (.iaload, 1) := by decide +kernel
theorem dX7_takesWord_20 : decode cX7_takesWord 20 = .ok (.aload_n 1, 1) := by decide +kernel
theorem dX7_takesWord_21 : decode cX7_takesWord 21 = .ok (.invokevirtual 109, 3) := by decide +kernel
theorem dX7_takesWord_24 : decode cX7_takesWord 24 = .ok (.if_icmp .eq 5, 3) := by decide +kernel
theorem dX7_takesWord_27 : decode cX7_takesWord 27 = .ok (.iconst 0, 1) := by decide +kernel
theorem dX7_takesWord_28 : decode cX7_takesWord 28 = .ok (.ireturn, 1) := by decide +kernel
theorem dX7_takesWord_29 : decode cX7_takesWord 29 = .ok (.iconst 0, 1) := by decide +kernel
theorem dX7_takesWord_30 : decode cX7_takesWord 30 = .ok (.istore_n 2, 1) := by decide +kernel
theorem dX7_takesWord_31 : decode cX7_takesWord 31 = .ok (.iload_n 2, 1) := by decide +kernel
theorem dX7_takesWord_32 : decode cX7_takesWord 32 = .ok (.aload_n 1, 1) := by decide +kernel
theorem dX7_takesWord_33 : decode cX7_takesWord 33 = .ok (.invokevirtual 109, 3) := by decide +kernel
theorem dX7_takesWord_36 : decode cX7_takesWord 36 = .ok (.if_icmp .ge 34, 3) := by decide +kernel
theorem dX7_takesWord_39 : decode cX7_takesWord 39 = .ok (.aload_n 0, 1) := by decide +kernel
theorem dX7_takesWord_40 : decode cX7_takesWord 40 = .ok (.aload_n 0, 1) := by decide +kernel
theorem dX7_takesWord_41 : decode cX7_takesWord 41 = .ok (.getfield 30, 3) := by decide +kernel
theorem dX7_takesWord_44 : decode cX7_takesWord 44 = .ok (.aload_n 0, 1) := by decide +kernel
theorem dX7_takesWord_45 : decode cX7_takesWord 45 = .ok (.getfield 39, 3) := by decide +kernel
theorem dX7_takesWord_48 : decode cX7_takesWord 48 = .ok (.iaload, 1) := by decide +kernel
theorem dX7_takesWord_49 : decode cX7_takesWord 49 = .ok (.iload_n 2, 1) := by decide +kernel
theorem dX7_takesWord_50 : decode cX7_takesWord 50 = .ok (.iadd, 1) := by decide +kernel
theorem dX7_takesWord_51 : decode cX7_takesWord 51 = .ok (.invokevirtual 114, 3) := by decide +kernel
theorem dX7_takesWord_54 : decode cX7_takesWord 54 = .ok (.aload_n 1, 1) := by decide +kernel
theorem dX7_takesWord_55 : decode cX7_takesWord 55 = .ok (.iload_n 2, 1) := by decide +kernel
theorem dX7_takesWord_56 : decode cX7_takesWord 56 = .ok (.invokevirtual 117, 3) := by decide +kernel
theorem dX7_takesWord_59 : decode cX7_takesWord 59 = .ok (.if_icmp .eq 5, 3) := by decide +kernel
theorem dX7_takesWord_62 : decode cX7_takesWord 62 = .ok (.iconst 0, 1) := by decide +kernel
theorem dX7_takesWord_63 : decode cX7_takesWord 63 = .ok (.ireturn, 1) := by decide +kernel
theorem dX7_takesWord_64 : decode cX7_takesWord 64 = .ok (.iinc 2 1, 3) := by decide +kernel
theorem dX7_takesWord_67 : decode cX7_takesWord 67 = .ok (.goto (-36), 3) := by decide +kernel
theorem dX7_takesWord_70 : decode cX7_takesWord 70 = .ok (.aload_n 0, 1) := by decide +kernel
theorem dX7_takesWord_71 : decode cX7_takesWord 71 = .ok (.dup, 1) := by decide +kernel
theorem dX7_takesWord_72 : decode cX7_takesWord 72 = .ok (.getfield 39, 3) := by decide +kernel
theorem dX7_takesWord_75 : decode cX7_takesWord 75 = .ok (.iconst 1, 1) := by decide +kernel
theorem dX7_takesWord_76 : decode cX7_takesWord 76 = .ok (.iadd, 1) := by decide +kernel
theorem dX7_takesWord_77 : decode cX7_takesWord 77 = .ok (.putfield 39, 3) := by decide +kernel
theorem dX7_takesWord_80 : decode cX7_takesWord 80 = .ok (.iconst 1, 1) := by decide +kernel
theorem dX7_takesWord_81 : decode cX7_takesWord 81 = .ok (.ireturn, 1) := by decide +kernel
theorem dX7_takesStop_0 : decode cX7_takesStop 0 = .ok (.aload_n 0, 1) := by decide +kernel
theorem dX7_takesStop_1 : decode cX7_takesStop 1 = .ok (.getfield 39, 3) := by decide +kernel
theorem dX7_takesStop_4 : decode cX7_takesStop 4 = .ok (.aload_n 0, 1) := by decide +kernel
theorem dX7_takesStop_5 : decode cX7_takesStop 5 = .ok (.getfield 36, 3) := by decide +kernel
theorem dX7_takesStop_8 : decode cX7_takesStop 8 = .ok (.if_icmp .ge 16, 3) := by decide +kernel
theorem dX7_takesStop_11 : decode cX7_takesStop 11 = .ok (.aload_n 0, 1) := by decide +kernel
theorem dX7_takesStop_12 : decode cX7_takesStop 12 = .ok (.getfield 26, 3) := by decide +kernel
theorem dX7_takesStop_15 : decode cX7_takesStop 15 = .ok (.aload_n 0, 1) := by decide +kernel
theorem dX7_takesStop_16 : decode cX7_takesStop 16 = .ok (.getfield 39, 3) := by decide +kernel
theorem dX7_takesStop_19 : decode cX7_takesStop 19 = .ok (.iaload, 1) := by decide +kernel
theorem dX7_takesStop_20 : decode cX7_takesStop 20 = .ok (.iconst 3, 1) := by decide +kernel
theorem dX7_takesStop_21 : decode cX7_takesStop 21 = .ok (.if_icmp .eq 5, 3) := by decide +kernel
theorem dX7_takesStop_24 : decode cX7_takesStop 24 = .ok (.iconst 0, 1) := by decide +kernel
theorem dX7_takesStop_25 : decode cX7_takesStop 25 = .ok (.ireturn, 1) := by decide +kernel
theorem dX7_takesStop_26 : decode cX7_takesStop 26 = .ok (.aload_n 0, 1) := by decide +kernel
theorem dX7_takesStop_27 : decode cX7_takesStop 27 = .ok (.dup, 1) := by decide +kernel
theorem dX7_takesStop_28 : decode cX7_takesStop 28 = .ok (.getfield 39, 3) := by decide +kernel
theorem dX7_takesStop_31 : decode cX7_takesStop 31 = .ok (.iconst 1, 1) := by decide +kernel
theorem dX7_takesStop_32 : decode cX7_takesStop 32 = .ok (.iadd, 1) := by decide +kernel
theorem dX7_takesStop_33 : decode cX7_takesStop 33 = .ok (.putfield 39, 3) := by decide +kernel
theorem dX7_takesStop_36 : decode cX7_takesStop 36 = .ok (.iconst 1, 1) := by decide +kernel
theorem dX7_takesStop_37 : decode cX7_takesStop 37 = .ok (.ireturn, 1) := by decide +kernel
theorem dX7_takesNumber_0 : decode cX7_takesNumber 0 = .ok (.aload_n 0, 1) := by decide +kernel
theorem dX7_takesNumber_1 : decode cX7_takesNumber 1 = .ok (.getfield 39, 3) := by decide +kernel
theorem dX7_takesNumber_4 : decode cX7_takesNumber 4 = .ok (.aload_n 0, 1) := by decide +kernel
theorem dX7_takesNumber_5 : decode cX7_takesNumber 5 = .ok (.getfield 36, 3) := by decide +kernel
theorem dX7_takesNumber_8 : decode cX7_takesNumber 8 = .ok (.if_icmp .ge 29, 3) := by decide +kernel
theorem dX7_takesNumber_11 : decode cX7_takesNumber 11 = .ok (.aload_n 0, 1) := by decide +kernel
theorem dX7_takesNumber_12 : decode cX7_takesNumber 12 = .ok (.getfield 26, 3) := by decide +kernel
theorem dX7_takesNumber_15 : decode cX7_takesNumber 15 = .ok (.aload_n 0, 1) := by decide +kernel
theorem dX7_takesNumber_16 : decode cX7_takesNumber 16 = .ok (.getfield 39, 3) := by decide +kernel
theorem dX7_takesNumber_19 : decode cX7_takesNumber 19 = .ok (.iaload, 1) := by decide +kernel
theorem dX7_takesNumber_20 : decode cX7_takesNumber 20 = .ok (.iconst 2, 1) := by decide +kernel
theorem dX7_takesNumber_21 : decode cX7_takesNumber 21 = .ok (.if_icmp .ne 16, 3) := by decide +kernel
theorem dX7_takesNumber_24 : decode cX7_takesNumber 24 = .ok (.aload_n 0, 1) := by decide +kernel
theorem dX7_takesNumber_25 : decode cX7_takesNumber 25 = .ok (.getfield 33, 3) := by decide +kernel
theorem dX7_takesNumber_28 : decode cX7_takesNumber 28 = .ok (.aload_n 0, 1) := by decide +kernel
theorem dX7_takesNumber_29 : decode cX7_takesNumber 29 = .ok (.getfield 39, 3) := by decide +kernel
theorem dX7_takesNumber_32 : decode cX7_takesNumber 32 = .ok (.iaload, 1) := by decide +kernel
theorem dX7_takesNumber_33 : decode cX7_takesNumber 33 = .ok (.iconst 2, 1) := by decide +kernel
theorem dX7_takesNumber_34 : decode cX7_takesNumber 34 = .ok (.if_icmp .le 5, 3) := by decide +kernel
theorem dX7_takesNumber_37 : decode cX7_takesNumber 37 = .ok (.iconst 0, 1) := by decide +kernel
theorem dX7_takesNumber_38 : decode cX7_takesNumber 38 = .ok (.ireturn, 1) := by decide +kernel
theorem dX7_takesNumber_39 : decode cX7_takesNumber 39 = .ok (.aload_n 0, 1) := by decide +kernel
theorem dX7_takesNumber_40 : decode cX7_takesNumber 40 = .ok (.aload_n 0, 1) := by decide +kernel
theorem dX7_takesNumber_41 : decode cX7_takesNumber 41 = .ok (.getfield 30, 3) := by decide +kernel
theorem dX7_takesNumber_44 : decode cX7_takesNumber 44 = .ok (.aload_n 0, 1) := by decide +kernel
theorem dX7_takesNumber_45 : decode cX7_takesNumber 45 = .ok (.getfield 39, 3) := by decide +kernel
theorem dX7_takesNumber_48 : decode cX7_takesNumber 48 = .ok (.iaload, 1) := by decide +kernel
theorem dX7_takesNumber_49 : decode cX7_takesNumber 49 = .ok (.invokevirtual 114, 3) := by decide +kernel
theorem dX7_takesNumber_52 : decode cX7_takesNumber 52 = .ok (.bipush 48, 2) := by decide +kernel
theorem dX7_takesNumber_54 : decode cX7_takesNumber 54 = .ok (.isub, 1) := by decide +kernel
theorem dX7_takesNumber_55 : decode cX7_takesNumber 55 = .ok (.istore_n 3, 1) := by decide +kernel
theorem dX7_takesNumber_56 : decode cX7_takesNumber 56 = .ok (.aload_n 0, 1) := by decide +kernel
theorem dX7_takesNumber_57 : decode cX7_takesNumber 57 = .ok (.getfield 33, 3) := by decide +kernel
theorem dX7_takesNumber_60 : decode cX7_takesNumber 60 = .ok (.aload_n 0, 1) := by decide +kernel
theorem dX7_takesNumber_61 : decode cX7_takesNumber 61 = .ok (.getfield 39, 3) := by decide +kernel
theorem dX7_takesNumber_64 : decode cX7_takesNumber 64 = .ok (.iaload, 1) := by decide +kernel
theorem dX7_takesNumber_65 : decode cX7_takesNumber 65 = .ok (.iconst 2, 1) := by decide +kernel
theorem dX7_takesNumber_66 : decode cX7_takesNumber 66 = .ok (.if_icmp .ne 27, 3) := by decide +kernel
theorem dX7_takesNumber_69 : decode cX7_takesNumber 69 = .ok (.iload_n 3, 1) := by decide +kernel
theorem dX7_takesNumber_70 : decode cX7_takesNumber 70 = .ok (.bipush 10, 2) := by decide +kernel
theorem dX7_takesNumber_72 : decode cX7_takesNumber 72 = .ok (.imul, 1) := by decide +kernel
theorem dX7_takesNumber_73 : decode cX7_takesNumber 73 = .ok (.aload_n 0, 1) := by decide +kernel
theorem dX7_takesNumber_74 : decode cX7_takesNumber 74 = .ok (.aload_n 0, 1) := by decide +kernel
theorem dX7_takesNumber_75 : decode cX7_takesNumber 75 = .ok (.getfield 30, 3) := by decide +kernel
theorem dX7_takesNumber_78 : decode cX7_takesNumber 78 = .ok (.aload_n 0, 1) := by decide +kernel
theorem dX7_takesNumber_79 : decode cX7_takesNumber 79 = .ok (.getfield 39, 3) := by decide +kernel
theorem dX7_takesNumber_82 : decode cX7_takesNumber 82 = .ok (.iaload, 1) := by decide +kernel
theorem dX7_takesNumber_83 : decode cX7_takesNumber 83 = .ok (.iconst 1, 1) := by decide +kernel
theorem dX7_takesNumber_84 : decode cX7_takesNumber 84 = .ok (.iadd, 1) := by decide +kernel
theorem dX7_takesNumber_85 : decode cX7_takesNumber 85 = .ok (.invokevirtual 114, 3) := by decide +kernel
theorem dX7_takesNumber_88 : decode cX7_takesNumber 88 = .ok (.iadd, 1) := by decide +kernel
theorem dX7_takesNumber_89 : decode cX7_takesNumber 89 = .ok (.bipush 48, 2) := by decide +kernel
theorem dX7_takesNumber_91 : decode cX7_takesNumber 91 = .ok (.isub, 1) := by decide +kernel
theorem dX7_takesNumber_92 : decode cX7_takesNumber 92 = .ok (.istore_n 3, 1) := by decide +kernel
theorem dX7_takesNumber_93 : decode cX7_takesNumber 93 = .ok (.iload_n 3, 1) := by decide +kernel
theorem dX7_takesNumber_94 : decode cX7_takesNumber 94 = .ok (.iload_n 1, 1) := by decide +kernel
theorem dX7_takesNumber_95 : decode cX7_takesNumber 95 = .ok (.iload_n 2, 1) := by decide +kernel
theorem dX7_takesNumber_96 : decode cX7_takesNumber 96 = .ok (.invokestatic 79, 3) := by decide +kernel
theorem dX7_takesNumber_99 : decode cX7_takesNumber 99 = .ok (.ifCond .ne 5, 3) := by decide +kernel
theorem dX7_takesNumber_102 : decode cX7_takesNumber 102 = .ok (.iconst 0, 1) := by decide +kernel
theorem dX7_takesNumber_103 : decode cX7_takesNumber 103 = .ok (.ireturn, 1) := by decide +kernel
theorem dX7_takesNumber_104 : decode cX7_takesNumber 104 = .ok (.aload_n 0, 1) := by decide +kernel
theorem dX7_takesNumber_105 : decode cX7_takesNumber 105 = .ok (.iload_n 3, 1) := by decide +kernel
theorem dX7_takesNumber_106 : decode cX7_takesNumber 106 = .ok (.putfield 42, 3) := by decide +kernel
theorem dX7_takesNumber_109 : decode cX7_takesNumber 109 = .ok (.aload_n 0, 1) := by decide +kernel
theorem dX7_takesNumber_110 : decode cX7_takesNumber 110 = .ok (.dup, 1) := by decide +kernel
theorem dX7_takesNumber_111 : decode cX7_takesNumber 111 = .ok (.getfield 39, 3) := by decide +kernel
theorem dX7_takesNumber_114 : decode cX7_takesNumber 114 = .ok (.iconst 1, 1) := by decide +kernel
theorem dX7_takesNumber_115 : decode cX7_takesNumber 115 = .ok (.iadd, 1) := by decide +kernel
theorem dX7_takesNumber_116 : decode cX7_takesNumber 116 = .ok (.putfield 39, 3) := by decide +kernel
theorem dX7_takesNumber_119 : decode cX7_takesNumber 119 = .ok (.iconst 1, 1) := by decide +kernel
theorem dX7_takesNumber_120 : decode cX7_takesNumber 120 = .ok (.ireturn, 1) := by decide +kernel
theorem dX8_init_0 : decode cX8_init 0 = .ok (.aload_n 0, 1) := by decide +kernel
theorem dX8_init_1 : decode cX8_init 1 = .ok (.invokespecial 1, 3) := by decide +kernel
theorem dX8_init_4 : decode cX8_init 4 = .ok (.aload_n 0, 1) := by decide +kernel
theorem dX8_init_5 : decode cX8_init 5 = .ok (.new 7, 3) := by decide +kernel
theorem dX8_init_8 : decode cX8_init 8 = .ok (.dup, 1) := by decide +kernel
theorem dX8_init_9 : decode cX8_init 9 = .ok (.invokespecial 9, 3) := by decide +kernel
theorem dX8_init_12 : decode cX8_init 12 = .ok (.putfield 10, 3) := by decide +kernel
theorem dX8_init_15 : decode cX8_init 15 = .ok (.aload_n 0, 1) := by decide +kernel
theorem dX8_init_16 : decode cX8_init 16 = .ok (.iconst 2, 1) := by decide +kernel
theorem dX8_init_17 : decode cX8_init 17 = .ok (.anewarray 7, 3) := by decide +kernel
theorem dX8_init_20 : decode cX8_init 20 = .ok (.putfield 16, 3) := by decide +kernel
theorem dX8_init_23 : decode cX8_init 23 = .ok (.aload_n 0, 1) := by decide +kernel
theorem dX8_init_24 : decode cX8_init 24 = .ok (.new 20, 3) := by decide +kernel
theorem dX8_init_27 : decode cX8_init 27 = .ok (.dup, 1) := by decide +kernel
theorem dX8_init_28 : decode cX8_init 28 = .ok (.invokespecial 22, 3) := by decide +kernel
theorem dX8_init_31 : decode cX8_init 31 = .ok (.putfield 23, 3) := by decide +kernel
theorem dX8_init_34 : decode cX8_init 34 = .ok (.aload_n 0, 1) := by decide +kernel
theorem dX8_init_35 : decode cX8_init 35 = .ok (.new 27, 3) := by decide +kernel
theorem dX8_init_38 : decode cX8_init 38 = .ok (.dup, 1) := by decide +kernel
theorem dX8_init_39 : decode cX8_init 39 = .ok (.invokespecial 29, 3) := by decide +kernel
theorem dX8_init_42 : decode cX8_init 42 = .ok (.putfield 30, 3) := by decide +kernel
theorem dX8_init_45 : decode cX8_init 45 = .ok (.aload_n 0, 1) := by decide +kernel
theorem dX8_init_46 : decode cX8_init 46 = .ok (.iconst 3, 1) := by decide +kernel
theorem dX8_init_47 : decode cX8_init 47 = .ok (.newarray .int, 2) := by decide +kernel
theorem dX8_init_49 : decode cX8_init 49 = .ok (.putfield 34, 3) := by decide +kernel
theorem dX8_init_52 : decode cX8_init 52 = .ok (.aload_n 0, 1) := by decide +kernel
theorem dX8_init_53 : decode cX8_init 53 = .ok (.bipush 6, 2) := by decide +kernel
theorem dX8_init_55 : decode cX8_init 55 = .ok (.newarray .int, 2) := by decide +kernel
theorem dX8_init_57 : decode cX8_init 57 = .ok (.putfield 38, 3) := by decide +kernel
theorem dX8_init_60 : decode cX8_init 60 = .ok (.aload_n 0, 1) := by decide +kernel
theorem dX8_init_61 : decode cX8_init 61 = .ok (.bipush 6, 2) := by decide +kernel
theorem dX8_init_63 : decode cX8_init 63 = .ok (.newarray .int, 2) := by decide +kernel
theorem dX8_init_65 : decode cX8_init 65 = .ok (.putfield 41, 3) := by decide +kernel
theorem dX8_init_68 : decode cX8_init 68 = .ok (.aload_n 0, 1) := by decide +kernel
theorem dX8_init_69 : decode cX8_init 69 = .ok (.lconst 0, 1) := by decide +kernel
theorem dX8_init_70 : decode cX8_init 70 = .ok (.putfield 44, 3) := by decide +kernel
theorem dX8_init_73 : decode cX8_init 73 = .ok (.aload_n 0, 1) := by decide +kernel
theorem dX8_init_74 : decode cX8_init 74 = .ok (.lconst 1, 1) := by decide +kernel
theorem dX8_init_75 : decode cX8_init 75 = .ok (.putfield 48, 3) := by decide +kernel
theorem dX8_init_78 : decode cX8_init 78 = .ok (.return_, 1) := by decide +kernel
theorem dX8_town_0 : decode cX8_town 0 = .ok (.aload_n 0, 1) := by decide +kernel
theorem dX8_town_1 : decode cX8_town 1 = .ok (.getfield 10, 3) := by decide +kernel
theorem dX8_town_4 : decode cX8_town 4 = .ok (.getfield 51, 3) := by decide +kernel
theorem dX8_town_7 : decode cX8_town 7 = .ok (.invokevirtual 55, 3) := by decide +kernel
theorem dX8_town_10 : decode cX8_town 10 = .ok (.istore_n 1, 1) := by decide +kernel
theorem dX8_town_11 : decode cX8_town 11 = .ok (.aload_n 0, 1) := by decide +kernel
theorem dX8_town_12 : decode cX8_town 12 = .ok (.getfield 10, 3) := by decide +kernel
theorem dX8_town_15 : decode cX8_town 15 = .ok (.invokevirtual 61, 3) := by decide +kernel
theorem dX8_town_18 : decode cX8_town 18 = .ok (.iload_n 1, 1) := by decide +kernel
theorem dX8_town_19 : decode cX8_town 19 = .ok (.ireturn, 1) := by decide +kernel
theorem dX8_stick_0 : decode cX8_stick 0 = .ok (.iload_n 1, 1) := by decide +kernel
theorem dX8_stick_1 : decode cX8_stick 1 = .ok (.bipush 6, 2) := by decide +kernel
theorem dX8_stick_3 : decode cX8_stick 3 = .ok (.invokestatic 64, 3) := by decide +kernel
theorem dX8_stick_6 : decode cX8_stick 6 = .ok (.ifCond .eq 20, 3) := by decide +kernel
theorem dX8_stick_9 : decode cX8_stick 9 = .ok (.iload_n 2, 1) := by decide +kernel
theorem dX8_stick_10 : decode cX8_stick 10 = .ok (.invokestatic 68, 3) := by decide +kernel
theorem dX8_stick_13 : decode cX8_stick 13 = .ok (.ifCond .eq 13, 3) := by decide +kernel
theorem dX8_stick_16 : decode cX8_stick 16 = .ok (.iload_n 3, 1) := by decide +kernel
theorem dX8_stick_17 : decode cX8_stick 17 = .ok (.iconst 1, 1) := by decide +kernel
theorem dX8_stick_18 : decode cX8_stick 18 = .ok (.bipush 9, 2) := by decide +kernel
theorem dX8_stick_20 : decode cX8_stick 20 = .ok (.invokestatic 74, 3) := by decide +kernel
theorem dX8_stick_23 : decode cX8_stick 23 = .ok (.ifCond .ne 8, 3) := by decide +kernel
theorem dX8_stick_26 : decode cX8_stick 26 = .ok (.aload_n 0, 1) := by decide +kernel
theorem dX8_stick_27 : decode cX8_stick 27 = .ok (.invokevirtual 78, 3) := by decide +kernel
theorem dX8_stick_30 : decode cX8_stick 30 = .ok (.ireturn, 1) := by decide +kernel
theorem dX8_stick_31 : decode cX8_stick 31 = .ok (.aload_n 0, 1) := by decide +kernel
theorem dX8_stick_32 : decode cX8_stick 32 = .ok (.getfield 10, 3) := by decide +kernel
theorem dX8_stick_35 : decode cX8_stick 35 = .ok (.getfield 51, 3) := by decide +kernel
theorem dX8_stick_38 : decode cX8_stick 38 = .ok (.invokevirtual 81, 3) := by decide +kernel
theorem dX8_stick_41 : decode cX8_stick 41 = .ok (.ifCond .eq 8, 3) := by decide +kernel
theorem dX8_stick_44 : decode cX8_stick 44 = .ok (.aload_n 0, 1) := by decide +kernel
theorem dX8_stick_45 : decode cX8_stick 45 = .ok (.invokevirtual 85, 3) := by decide +kernel
theorem dX8_stick_48 : decode cX8_stick 48 = .ok (.ireturn, 1) := by decide +kernel
theorem dX8_stick_49 : decode cX8_stick 49 = .ok (.aload_n 0, 1) := by decide +kernel
theorem dX8_stick_50 : decode cX8_stick 50 = .ok (.getfield 10, 3) := by decide +kernel
theorem dX8_stick_53 : decode cX8_stick 53 = .ok (.getfield 88, 3) := by decide +kernel
theorem dX8_stick_56 : decode cX8_stick 56 = .ok (.invokevirtual 92, 3) := by decide +kernel
theorem dX8_stick_59 : decode cX8_stick 59 = .ok (.aload_n 0, 1) := by decide +kernel
theorem dX8_stick_60 : decode cX8_stick 60 = .ok (.getfield 10, 3) := by decide +kernel
theorem dX8_stick_63 : decode cX8_stick 63 = .ok (.getfield 51, 3) := by decide +kernel
theorem dX8_stick_66 : decode cX8_stick 66 = .ok (.iload_n 1, 1) := by decide +kernel
theorem dX8_stick_67 : decode cX8_stick 67 = .ok (.iload_n 2, 1) := by decide +kernel
theorem dX8_stick_68 : decode cX8_stick 68 = .ok (.iload_n 3, 1) := by decide +kernel
theorem dX8_stick_69 : decode cX8_stick 69 = .ok (.iconst 0, 1) := by decide +kernel
theorem dX8_stick_70 : decode cX8_stick 70 = .ok (.invokevirtual 95, 3) := by decide +kernel
theorem dX8_stick_73 : decode cX8_stick 73 = .ok (.ireturn, 1) := by decide +kernel
theorem dX8_type_0 : decode cX8_type 0 = .ok (.iload_n 1, 1) := by decide +kernel
theorem dX8_type_1 : decode cX8_type 1 = .ok (.iconst 0, 1) := by decide +kernel
theorem dX8_type_2 : decode cX8_type 2 = .ok (.bipush 127, 2) := by decide +kernel
theorem dX8_type_4 : decode cX8_type 4 = .ok (.invokestatic 74, 3) := by decide +kernel
theorem dX8_type_7 : decode cX8_type 7 = .ok (.ifCond .ne 8, 3) := by decide +kernel
theorem dX8_type_10 : decode cX8_type 10 = .ok (.aload_n 0, 1) := by decide +kernel
theorem dX8_type_11 : decode cX8_type 11 = .ok (.invokevirtual 78, 3) := by decide +kernel
theorem dX8_type_14 : decode cX8_type 14 = .ok (.ireturn, 1) := by decide +kernel
theorem dX8_type_15 : decode cX8_type 15 = .ok (.aload_n 0, 1) := by decide +kernel
theorem dX8_type_16 : decode cX8_type 16 = .ok (.getfield 23, 3) := by decide +kernel
theorem dX8_type_19 : decode cX8_type 19 = .ok (.invokevirtual 99, 3) := by decide +kernel
theorem dX8_type_22 : decode cX8_type 22 = .ok (.sipush 150, 3) := by decide +kernel
theorem dX8_type_25 : decode cX8_type 25 = .ok (.if_icmp .lt 8, 3) := by decide +kernel
theorem dX8_type_28 : decode cX8_type 28 = .ok (.aload_n 0, 1) := by decide +kernel
theorem dX8_type_29 : decode cX8_type 29 = .ok (.invokevirtual 85, 3) := by decide +kernel
theorem dX8_type_32 : decode cX8_type 32 = .ok (.ireturn, 1) := by decide +kernel
theorem dX8_type_33 : decode cX8_type 33 = .ok (.aload_n 0, 1) := by decide +kernel
theorem dX8_type_34 : decode cX8_type 34 = .ok (.getfield 23, 3) := by decide +kernel
theorem dX8_type_37 : decode cX8_type 37 = .ok (.iload_n 1, 1) := by decide +kernel
theorem dX8_type_38 : decode cX8_type 38 = .ok (.invokevirtual 100, 3) := by decide +kernel
theorem dX8_type_41 : decode cX8_type 41 = .ok (.aload_n 0, 1) := by decide +kernel
theorem dX8_type_42 : decode cX8_type 42 = .ok (.getfield 23, 3) := by decide +kernel
theorem dX8_type_45 : decode cX8_type 45 = .ok (.invokevirtual 99, 3) := by decide +kernel
theorem dX8_type_48 : decode cX8_type 48 = .ok (.ireturn, 1) := by decide +kernel
theorem dX8_clear_0 : decode cX8_clear 0 = .ok (.aload_n 0, 1) := by decide +kernel
theorem dX8_clear_1 : decode cX8_clear 1 = .ok (.getfield 23, 3) := by decide +kernel
theorem dX8_clear_4 : decode cX8_clear 4 = .ok (.invokevirtual 99, 3) := by decide +kernel
theorem dX8_clear_7 : decode cX8_clear 7 = .ok (.istore_n 1, 1) := by decide +kernel
theorem dX8_clear_8 : decode cX8_clear 8 = .ok (.aload_n 0, 1) := by decide +kernel
theorem dX8_clear_9 : decode cX8_clear 9 = .ok (.getfield 23, 3) := by decide +kernel
theorem dX8_clear_12 : decode cX8_clear 12 = .ok (.invokevirtual 104, 3) := by decide +kernel
theorem dX8_clear_15 : decode cX8_clear 15 = .ok (.iload_n 1, 1) := by decide +kernel
theorem dX8_clear_16 : decode cX8_clear 16 = .ok (.ireturn, 1) := by decide +kernel
theorem dX8_read_0 : decode cX8_read 0 = .ok (.aload_n 0, 1) := by decide +kernel
theorem dX8_read_1 : decode cX8_read 1 = .ok (.getfield 23, 3) := by decide +kernel
theorem dX8_read_4 : decode cX8_read 4 = .ok (.invokevirtual 105, 3) := by decide +kernel
theorem dX8_read_7 : decode cX8_read 7 = .ok (.istore_n 1, 1) := by decide +kernel
theorem dX8_read_8 : decode cX8_read 8 = .ok (.iload_n 1, 1) := by decide +kernel
theorem dX8_read_9 : decode cX8_read 9 = .ok (.ifCond .lt 27, 3) := by decide +kernel
theorem dX8_read_12 : decode cX8_read 12 = .ok (.aload_n 0, 1) := by decide +kernel
theorem dX8_read_13 : decode cX8_read 13 = .ok (.getfield 10, 3) := by decide +kernel
theorem dX8_read_16 : decode cX8_read 16 = .ok (.invokevirtual 61, 3) := by decide +kernel
theorem dX8_read_19 : decode cX8_read 19 = .ok (.aload_n 0, 1) := by decide +kernel
theorem dX8_read_20 : decode cX8_read 20 = .ok (.getfield 10, 3) := by decide +kernel
theorem dX8_read_23 : decode cX8_read 23 = .ok (.getfield 51, 3) := by decide +kernel
theorem dX8_read_26 : decode cX8_read 26 = .ok (.aload_n 0, 1) := by decide +kernel
theorem dX8_read_27 : decode cX8_read 27 = .ok (.getfield 23, 3) := by decide +kernel
theorem dX8_read_30 : decode cX8_read 30 = .ok (.getfield 108, 3) := by decide +kernel
theorem dX8_read_33 : decode cX8_read 33 = .ok (.invokevirtual 111, 3) := by decide +kernel
theorem dX8_read_36 : decode cX8_read 36 = .ok (.iload_n 1, 1) := by decide +kernel
theorem dX8_read_37 : decode cX8_read 37 = .ok (.ireturn, 1) := by decide +kernel
theorem dX8_suck_0 : decode cX8_suck 0 = .ok (.aload_n 0, 1) := by decide +kernel
theorem dX8_suck_1 : decode cX8_suck 1 = .ok (.getfield 10, 3) := by decide +kernel
theorem dX8_suck_4 : decode cX8_suck 4 = .ok (.getfield 51, 3) := by decide +kernel
theorem dX8_suck_7 : decode cX8_suck 7 = .ok (.iload_n 1, 1) := by decide +kernel
theorem dX8_suck_8 : decode cX8_suck 8 = .ok (.invokevirtual 115, 3) := by decide +kernel
theorem dX8_suck_11 : decode cX8_suck 11 = .ok (.ifCond .eq 13, 3) := by decide +kernel
theorem dX8_suck_14 : decode cX8_suck 14 = .ok (.iload_n 2, 1) := by decide +kernel
theorem dX8_suck_15 : decode cX8_suck 15 = .ok (.iconst 1, 1) := by decide +kernel
theorem dX8_suck_16 : decode cX8_suck 16 = .ok (.bipush 9, 2) := by decide +kernel
theorem dX8_suck_18 : decode cX8_suck 18 = .ok (.invokestatic 74, 3) := by decide +kernel
theorem dX8_suck_21 : decode cX8_suck 21 = .ok (.ifCond .ne 8, 3) := by decide +kernel
theorem dX8_suck_24 : decode cX8_suck 24 = .ok (.aload_n 0, 1) := by decide +kernel
theorem dX8_suck_25 : decode cX8_suck 25 = .ok (.invokevirtual 78, 3) := by decide +kernel
theorem dX8_suck_28 : decode cX8_suck 28 = .ok (.ireturn, 1) := by decide +kernel
theorem dX8_suck_29 : decode cX8_suck 29 = .ok (.aload_n 0, 1) := by decide +kernel
theorem dX8_suck_30 : decode cX8_suck 30 = .ok (.getfield 10, 3) := by decide +kernel
theorem dX8_suck_33 : decode cX8_suck 33 = .ok (.getfield 88, 3) := by decide +kernel
theorem dX8_suck_36 : decode cX8_suck 36 = .ok (.aload_n 0, 1) := by decide +kernel
theorem dX8_suck_37 : decode cX8_suck 37 = .ok (.getfield 10, 3) := by decide +kernel
theorem dX8_suck_40 : decode cX8_suck 40 = .ok (.getfield 51, 3) := by decide +kernel
theorem dX8_suck_43 : decode cX8_suck 43 = .ok (.invokevirtual 118, 3) := by decide +kernel
theorem dX8_suck_46 : decode cX8_suck 46 = .ok (.aload_n 0, 1) := by decide +kernel
theorem dX8_suck_47 : decode cX8_suck 47 = .ok (.getfield 10, 3) := by decide +kernel
theorem dX8_suck_50 : decode cX8_suck 50 = .ok (.getfield 51, 3) := by decide +kernel
theorem dX8_suck_53 : decode cX8_suck 53 = .ok (.iload_n 1, 1) := by decide +kernel
theorem dX8_suck_54 : decode cX8_suck 54 = .ok (.iload_n 2, 1) := by decide +kernel
theorem dX8_suck_55 : decode cX8_suck 55 = .ok (.invokevirtual 122, 3) := by decide +kernel
theorem dX8_suck_58 : decode cX8_suck 58 = .ok (.aload_n 0, 1) := by decide +kernel
theorem dX8_suck_59 : decode cX8_suck 59 = .ok (.getfield 10, 3) := by decide +kernel
theorem dX8_suck_62 : decode cX8_suck 62 = .ok (.getfield 51, 3) := by decide +kernel
theorem dX8_suck_65 : decode cX8_suck 65 = .ok (.iload_n 1, 1) := by decide +kernel
theorem dX8_suck_66 : decode cX8_suck 66 = .ok (.iconst 3, 1) := by decide +kernel
theorem dX8_suck_67 : decode cX8_suck 67 = .ok (.invokevirtual 126, 3) := by decide +kernel
theorem dX8_suck_70 : decode cX8_suck 70 = .ok (.ireturn, 1) := by decide +kernel
theorem dX8_snap_0 : decode cX8_snap 0 = .ok (.aload_n 0, 1) := by decide +kernel
theorem dX8_snap_1 : decode cX8_snap 1 = .ok (.getfield 10, 3) := by decide +kernel
theorem dX8_snap_4 : decode cX8_snap 4 = .ok (.getfield 51, 3) := by decide +kernel
theorem dX8_snap_7 : decode cX8_snap 7 = .ok (.iload_n 1, 1) := by decide +kernel
theorem dX8_snap_8 : decode cX8_snap 8 = .ok (.invokevirtual 115, 3) := by decide +kernel
theorem dX8_snap_11 : decode cX8_snap 11 = .ok (.ifCond .eq 13, 3) := by decide +kernel
theorem dX8_snap_14 : decode cX8_snap 14 = .ok (.iload_n 2, 1) := by decide +kernel
theorem dX8_snap_15 : decode cX8_snap 15 = .ok (.iconst 1, 1) := by decide +kernel
theorem dX8_snap_16 : decode cX8_snap 16 = .ok (.bipush 8, 2) := by decide +kernel
theorem dX8_snap_18 : decode cX8_snap 18 = .ok (.invokestatic 74, 3) := by decide +kernel
theorem dX8_snap_21 : decode cX8_snap 21 = .ok (.ifCond .ne 8, 3) := by decide +kernel
theorem dX8_snap_24 : decode cX8_snap 24 = .ok (.aload_n 0, 1) := by decide +kernel
theorem dX8_snap_25 : decode cX8_snap 25 = .ok (.invokevirtual 78, 3) := by decide +kernel
theorem dX8_snap_28 : decode cX8_snap 28 = .ok (.ireturn, 1) := by decide +kernel
theorem dX8_snap_29 : decode cX8_snap 29 = .ok (.iload_n 2, 1) := by decide +kernel
theorem dX8_snap_30 : decode cX8_snap 30 = .ok (.aload_n 0, 1) := by decide +kernel
theorem dX8_snap_31 : decode cX8_snap 31 = .ok (.getfield 10, 3) := by decide +kernel
theorem dX8_snap_34 : decode cX8_snap 34 = .ok (.getfield 51, 3) := by decide +kernel
theorem dX8_snap_37 : decode cX8_snap 37 = .ok (.iload_n 1, 1) := by decide +kernel
theorem dX8_snap_38 : decode cX8_snap 38 = .ok (.iconst 2, 1) := by decide +kernel
theorem dX8_snap_39 : decode cX8_snap 39 = .ok (.invokevirtual 126, 3) := by decide +kernel
theorem dX8_snap_42 : decode cX8_snap 42 = .ok (.if_icmp .lt 8, 3) := by decide +kernel
theorem dX8_snap_45 : decode cX8_snap 45 = .ok (.aload_n 0, 1) := by decide +kernel
theorem dX8_snap_46 : decode cX8_snap 46 = .ok (.invokevirtual 130, 3) := by decide +kernel
theorem dX8_snap_49 : decode cX8_snap 49 = .ok (.ireturn, 1) := by decide +kernel
theorem dX8_snap_50 : decode cX8_snap 50 = .ok (.aload_n 0, 1) := by decide +kernel
theorem dX8_snap_51 : decode cX8_snap 51 = .ok (.getfield 10, 3) := by decide +kernel
theorem dX8_snap_54 : decode cX8_snap 54 = .ok (.getfield 88, 3) := by decide +kernel
theorem dX8_snap_57 : decode cX8_snap 57 = .ok (.aload_n 0, 1) := by decide +kernel
theorem dX8_snap_58 : decode cX8_snap 58 = .ok (.getfield 10, 3) := by decide +kernel
theorem dX8_snap_61 : decode cX8_snap 61 = .ok (.getfield 51, 3) := by decide +kernel
theorem dX8_snap_64 : decode cX8_snap 64 = .ok (.invokevirtual 118, 3) := by decide +kernel
theorem dX8_snap_67 : decode cX8_snap 67 = .ok (.aload_n 0, 1) := by decide +kernel
theorem dX8_snap_68 : decode cX8_snap 68 = .ok (.getfield 10, 3) := by decide +kernel
theorem dX8_snap_71 : decode cX8_snap 71 = .ok (.getfield 51, 3) := by decide +kernel
theorem dX8_snap_74 : decode cX8_snap 74 = .ok (.iload_n 1, 1) := by decide +kernel
theorem dX8_snap_75 : decode cX8_snap 75 = .ok (.iconst 2, 1) := by decide +kernel
theorem dX8_snap_76 : decode cX8_snap 76 = .ok (.iload_n 2, 1) := by decide +kernel
theorem dX8_snap_77 : decode cX8_snap 77 = .ok (.invokevirtual 133, 3) := by decide +kernel
theorem dX8_snap_80 : decode cX8_snap 80 = .ok (.aload_n 0, 1) := by decide +kernel
theorem dX8_snap_81 : decode cX8_snap 81 = .ok (.getfield 10, 3) := by decide +kernel
theorem dX8_snap_84 : decode cX8_snap 84 = .ok (.getfield 51, 3) := by decide +kernel
theorem dX8_snap_87 : decode cX8_snap 87 = .ok (.iload_n 1, 1) := by decide +kernel
theorem dX8_snap_88 : decode cX8_snap 88 = .ok (.iload_n 2, 1) := by decide +kernel
theorem dX8_snap_89 : decode cX8_snap 89 = .ok (.iconst 1, 1) := by decide +kernel
theorem dX8_snap_90 : decode cX8_snap 90 = .ok (.isub, 1) := by decide +kernel
theorem dX8_snap_91 : decode cX8_snap 91 = .ok (.invokevirtual 137, 3) := by decide +kernel
theorem dX8_snap_94 : decode cX8_snap 94 = .ok (.ireturn, 1) := by decide +kernel
theorem dX8_lays_0 : decode cX8_lays 0 = .ok (.aload_n 0, 1) := by decide +kernel
theorem dX8_lays_1 : decode cX8_lays 1 = .ok (.iload_n 1, 1) := by decide +kernel
theorem dX8_lays_2 : decode cX8_lays 2 = .ok (.iload_n 2, 1) := by decide +kernel
theorem dX8_lays_3 : decode cX8_lays 3 = .ok (.invokevirtual 140, 3) := by decide +kernel
theorem dX8_lays_6 : decode cX8_lays 6 = .ok (.ifCond .ne 8, 3) := by decide +kernel
theorem dX8_lays_9 : decode cX8_lays 9 = .ok (.aload_n 0, 1) := by decide +kernel
theorem dX8_lays_10 : decode cX8_lays 10 = .ok (.invokevirtual 78, 3) := by decide +kernel
theorem dX8_lays_13 : decode cX8_lays 13 = .ok (.ireturn, 1) := by decide +kernel
theorem dX8_lays_14 : decode cX8_lays 14 = .ok (.aload_n 0, 1) := by decide +kernel
theorem dX8_lays_15 : decode cX8_lays 15 = .ok (.getfield 10, 3) := by decide +kernel
theorem dX8_lays_18 : decode cX8_lays 18 = .ok (.getfield 88, 3) := by decide +kernel
theorem dX8_lays_21 : decode cX8_lays 21 = .ok (.aload_n 0, 1) := by decide +kernel
theorem dX8_lays_22 : decode cX8_lays 22 = .ok (.getfield 10, 3) := by decide +kernel
theorem dX8_lays_25 : decode cX8_lays 25 = .ok (.getfield 51, 3) := by decide +kernel
theorem dX8_lays_28 : decode cX8_lays 28 = .ok (.invokevirtual 118, 3) := by decide +kernel
theorem dX8_lays_31 : decode cX8_lays 31 = .ok (.aload_n 0, 1) := by decide +kernel
theorem dX8_lays_32 : decode cX8_lays 32 = .ok (.getfield 10, 3) := by decide +kernel
theorem dX8_lays_35 : decode cX8_lays 35 = .ok (.getfield 143, 3) := by decide +kernel
theorem dX8_lays_38 : decode cX8_lays 38 = .ok (.invokevirtual 147, 3) := by decide +kernel
theorem dX8_lays_41 : decode cX8_lays 41 = .ok (.iload_n 1, 1) := by decide +kernel
theorem dX8_lays_42 : decode cX8_lays 42 = .ok (.iload_n 2, 1) := by decide +kernel
theorem dX8_lays_43 : decode cX8_lays 43 = .ok (.invokestatic 150, 3) := by decide +kernel
theorem dX8_lays_46 : decode cX8_lays 46 = .ok (.istore_n 3, 1) := by decide +kernel
theorem dX8_lays_47 : decode cX8_lays 47 = .ok (.aload_n 0, 1) := by decide +kernel
theorem dX8_lays_48 : decode cX8_lays 48 = .ok (.getfield 10, 3) := by decide +kernel
theorem dX8_lays_51 : decode cX8_lays 51 = .ok (.getfield 51, 3) := by decide +kernel
theorem dX8_lays_54 : decode cX8_lays 54 = .ok (.iload_n 3, 1) := by decide +kernel
theorem dX8_lays_55 : decode cX8_lays 55 = .ok (.iload_n 1, 1) := by decide +kernel
theorem dX8_lays_56 : decode cX8_lays 56 = .ok (.iload_n 2, 1) := by decide +kernel
theorem dX8_lays_57 : decode cX8_lays 57 = .ok (.invokestatic 155, 3) := by decide +kernel
theorem dX8_lays_60 : decode cX8_lays 60 = .ok (.invokevirtual 158, 3) := by decide +kernel
theorem dX8_lays_63 : decode cX8_lays 63 = .ok (.iload_n 3, 1) := by decide +kernel
theorem dX8_lays_64 : decode cX8_lays 64 = .ok (.ireturn, 1) := by decide +kernel
theorem dX8_undo_0 : decode cX8_undo 0 = .ok (.aload_n 0, 1) := by decide +kernel
theorem dX8_undo_1 : decode cX8_undo 1 = .ok (.getfield 10, 3) := by decide +kernel
theorem dX8_undo_4 : decode cX8_undo 4 = .ok (.getfield 88, 3) := by decide +kernel
theorem dX8_undo_7 : decode cX8_undo 7 = .ok (.invokevirtual 161, 3) := by decide +kernel
theorem dX8_undo_10 : decode cX8_undo 10 = .ok (.ifCond .ne 8, 3) := by decide +kernel
theorem dX8_undo_13 : decode cX8_undo 13 = .ok (.aload_n 0, 1) := by decide +kernel
theorem dX8_undo_14 : decode cX8_undo 14 = .ok (.invokevirtual 130, 3) := by decide +kernel
theorem dX8_undo_17 : decode cX8_undo 17 = .ok (.ireturn, 1) := by decide +kernel
theorem dX8_undo_18 : decode cX8_undo 18 = .ok (.aload_n 0, 1) := by decide +kernel
theorem dX8_undo_19 : decode cX8_undo 19 = .ok (.getfield 10, 3) := by decide +kernel
theorem dX8_undo_22 : decode cX8_undo 22 = .ok (.getfield 88, 3) := by decide +kernel
theorem dX8_undo_25 : decode cX8_undo 25 = .ok (.aload_n 0, 1) := by decide +kernel
theorem dX8_undo_26 : decode cX8_undo 26 = .ok (.getfield 10, 3) := by decide +kernel
theorem dX8_undo_29 : decode cX8_undo 29 = .ok (.getfield 51, 3) := by decide +kernel
theorem dX8_undo_32 : decode cX8_undo 32 = .ok (.invokevirtual 162, 3) := by decide +kernel
theorem dX8_undo_35 : decode cX8_undo 35 = .ok (.aload_n 0, 1) := by decide +kernel
theorem dX8_undo_36 : decode cX8_undo 36 = .ok (.getfield 10, 3) := by decide +kernel
theorem dX8_undo_39 : decode cX8_undo 39 = .ok (.getfield 51, 3) := by decide +kernel
theorem dX8_undo_42 : decode cX8_undo 42 = .ok (.invokevirtual 55, 3) := by decide +kernel
theorem dX8_undo_45 : decode cX8_undo 45 = .ok (.ireturn, 1) := by decide +kernel
theorem dX8_of_0 : decode cX8_of 0 = .ok (.aload_n 0, 1) := by decide +kernel
theorem dX8_of_1 : decode cX8_of 1 = .ok (.getfield 10, 3) := by decide +kernel
theorem dX8_of_4 : decode cX8_of 4 = .ok (.getfield 51, 3) := by decide +kernel
theorem dX8_of_7 : decode cX8_of 7 = .ok (.iload_n 1, 1) := by decide +kernel
theorem dX8_of_8 : decode cX8_of 8 = .ok (.invokevirtual 115, 3) := by decide +kernel
theorem dX8_of_11 : decode cX8_of 11 = .ok (.ifCond .eq 11, 3) := by decide +kernel
theorem dX8_of_14 : decode cX8_of 14 = .ok (.iload_n 2, 1) := by decide +kernel
theorem dX8_of_15 : decode cX8_of 15 = .ok (.iconst 4, 1) := by decide +kernel
theorem dX8_of_16 : decode cX8_of 16 = .ok (.invokestatic 64, 3) := by decide +kernel
theorem dX8_of_19 : decode cX8_of 19 = .ok (.ifCond .ne 8, 3) := by decide +kernel
theorem dX8_of_22 : decode cX8_of 22 = .ok (.aload_n 0, 1) := by decide +kernel
theorem dX8_of_23 : decode cX8_of 23 = .ok (.invokevirtual 78, 3) := by decide +kernel
theorem dX8_of_26 : decode cX8_of 26 = .ok (.ireturn, 1) := by decide +kernel
theorem dX8_of_27 : decode cX8_of 27 = .ok (.aload_n 0, 1) := by decide +kernel
theorem dX8_of_28 : decode cX8_of 28 = .ok (.getfield 10, 3) := by decide +kernel
theorem dX8_of_31 : decode cX8_of 31 = .ok (.getfield 51, 3) := by decide +kernel
theorem dX8_of_34 : decode cX8_of 34 = .ok (.iload_n 1, 1) := by decide +kernel
theorem dX8_of_35 : decode cX8_of 35 = .ok (.iload_n 2, 1) := by decide +kernel
theorem dX8_of_36 : decode cX8_of 36 = .ok (.invokevirtual 126, 3) := by decide +kernel
theorem dX8_of_39 : decode cX8_of 39 = .ok (.ireturn, 1) := by decide +kernel
theorem dX8_at_0 : decode cX8_at 0 = .ok (.aload_n 0, 1) := by decide +kernel
theorem dX8_at_1 : decode cX8_at 1 = .ok (.getfield 10, 3) := by decide +kernel
theorem dX8_at_4 : decode cX8_at 4 = .ok (.getfield 51, 3) := by decide +kernel
theorem dX8_at_7 : decode cX8_at 7 = .ok (.iload_n 1, 1) := by decide +kernel
theorem dX8_at_8 : decode cX8_at 8 = .ok (.invokevirtual 115, 3) := by decide +kernel
theorem dX8_at_11 : decode cX8_at 11 = .ok (.ifCond .eq 20, 3) := by decide +kernel
theorem dX8_at_14 : decode cX8_at 14 = .ok (.iload_n 2, 1) := by decide +kernel
theorem dX8_at_15 : decode cX8_at 15 = .ok (.bipush 9, 2) := by decide +kernel
theorem dX8_at_17 : decode cX8_at 17 = .ok (.invokestatic 64, 3) := by decide +kernel
theorem dX8_at_20 : decode cX8_at 20 = .ok (.ifCond .eq 11, 3) := by decide +kernel
theorem dX8_at_23 : decode cX8_at 23 = .ok (.iload_n 3, 1) := by decide +kernel
theorem dX8_at_24 : decode cX8_at 24 = .ok (.iconst 2, 1) := by decide +kernel
theorem dX8_at_25 : decode cX8_at 25 = .ok (.invokestatic 64, 3) := by decide +kernel
theorem dX8_at_28 : decode cX8_at 28 = .ok (.ifCond .ne 8, 3) := by decide +kernel
theorem dX8_at_31 : decode cX8_at 31 = .ok (.aload_n 0, 1) := by decide +kernel
theorem dX8_at_32 : decode cX8_at 32 = .ok (.invokevirtual 78, 3) := by decide +kernel
theorem dX8_at_35 : decode cX8_at 35 = .ok (.ireturn, 1) := by decide +kernel
theorem dX8_at_36 : decode cX8_at 36 = .ok (.aload_n 0, 1) := by decide +kernel
theorem dX8_at_37 : decode cX8_at 37 = .ok (.getfield 10, 3) := by decide +kernel
theorem dX8_at_40 : decode cX8_at 40 = .ok (.getfield 51, 3) := by decide +kernel
theorem dX8_at_43 : decode cX8_at 43 = .ok (.iload_n 1, 1) := by decide +kernel
theorem dX8_at_44 : decode cX8_at 44 = .ok (.iload_n 2, 1) := by decide +kernel
theorem dX8_at_45 : decode cX8_at 45 = .ok (.invokevirtual 137, 3) := by decide +kernel
theorem dX8_at_48 : decode cX8_at 48 = .ok (.istore 4, 2) := by decide +kernel
theorem dX8_at_50 : decode cX8_at 50 = .ok (.iload_n 3, 1) := by decide +kernel
theorem dX8_at_51 : decode cX8_at 51 = .ok (.ifCond .ne 8, 3) := by decide +kernel
theorem dX8_at_54 : decode cX8_at 54 = .ok (.iload 4, 2) := by decide +kernel
theorem dX8_at_56 : decode cX8_at 56 = .ok (.goto 16, 3) := by decide +kernel
theorem dX8_at_59 : decode cX8_at 59 = .ok (.aload_n 0, 1) := by decide +kernel
theorem dX8_at_60 : decode cX8_at 60 = .ok (.getfield 10, 3) := by decide +kernel
theorem dX8_at_63 : decode cX8_at 63 = .ok (.getfield 51, 3) := by decide +kernel
theorem dX8_at_66 : decode cX8_at 66 = .ok (.iload_n 2, 1) := by decide +kernel
theorem dX8_at_67 : decode cX8_at 67 = .ok (.iload 4, 2) := by decide +kernel
theorem dX8_at_69 : decode cX8_at 69 = .ok (.invokevirtual 165, 3) := by decide +kernel
theorem dX8_at_72 : decode cX8_at 72 = .ok (.ireturn, 1) := by decide +kernel
theorem dX8_told_0 : decode cX8_told 0 = .ok (.iload_n 1, 1) := by decide +kernel
theorem dX8_told_1 : decode cX8_told 1 = .ok (.iconst 2, 1) := by decide +kernel
theorem dX8_told_2 : decode cX8_told 2 = .ok (.invokestatic 64, 3) := by decide +kernel
theorem dX8_told_5 : decode cX8_told 5 = .ok (.ifCond .ne 8, 3) := by decide +kernel
theorem dX8_told_8 : decode cX8_told 8 = .ok (.aload_n 0, 1) := by decide +kernel
theorem dX8_told_9 : decode cX8_told 9 = .ok (.invokevirtual 78, 3) := by decide +kernel
theorem dX8_told_12 : decode cX8_told 12 = .ok (.ireturn, 1) := by decide +kernel
theorem dX8_told_13 : decode cX8_told 13 = .ok (.iconst 0, 1) := by decide +kernel
theorem dX8_told_14 : decode cX8_told 14 = .ok (.istore_n 2, 1) := by decide +kernel
theorem dX8_told_15 : decode cX8_told 15 = .ok (.iconst 0, 1) := by decide +kernel
theorem dX8_told_16 : decode cX8_told 16 = .ok (.istore_n 3, 1) := by decide +kernel
theorem dX8_told_17 : decode cX8_told 17 = .ok (.iconst 0, 1) := by decide +kernel
theorem dX8_told_18 : decode cX8_told 18 = .ok (.istore 4, 2) := by decide +kernel
theorem dX8_told_20 : decode cX8_told 20 = .ok (.iload 4, 2) := by decide +kernel
theorem dX8_told_22 : decode cX8_told 22 = .ok (.bipush 9, 2) := by decide +kernel
theorem dX8_told_24 : decode cX8_told 24 = .ok (.if_icmp .ge 35, 3) := by decide +kernel
theorem dX8_told_27 : decode cX8_told 27 = .ok (.aload_n 0, 1) := by decide +kernel
theorem dX8_told_28 : decode cX8_told 28 = .ok (.getfield 10, 3) := by decide +kernel
theorem dX8_told_31 : decode cX8_told 31 = .ok (.getfield 51, 3) := by decide +kernel
theorem dX8_told_34 : decode cX8_told 34 = .ok (.iload 4, 2) := by decide +kernel
theorem dX8_told_36 : decode cX8_told 36 = .ok (.invokevirtual 168, 3) := by decide +kernel
theorem dX8_told_39 : decode cX8_told 39 = .ok (.istore 5, 2) := by decide +kernel
theorem dX8_told_41 : decode cX8_told 41 = .ok (.iload 5, 2) := by decide +kernel
theorem dX8_told_43 : decode cX8_told 43 = .ok (.iload_n 3, 1) := by decide +kernel
theorem dX8_told_44 : decode cX8_told 44 = .ok (.if_icmp .le 9, 3) := by decide +kernel
theorem dX8_told_47 : decode cX8_told 47 = .ok (.iload 5, 2) := by decide +kernel
theorem dX8_told_49 : decode cX8_told 49 = .ok (.istore_n 3, 1) := by decide +kernel
theorem dX8_told_50 : decode cX8_told 50 = .ok (.iload 4, 2) := by decide +kernel
theorem dX8_told_52 : decode cX8_told 52 = .ok (.istore_n 2, 1) := by decide +kernel
theorem dX8_told_53 : decode cX8_told 53 = .ok (.iinc 4 1, 3) := by decide +kernel
theorem dX8_told_56 : decode cX8_told 56 = .ok (.goto (-36), 3) := by decide +kernel
theorem dX8_told_59 : decode cX8_told 59 = .ok (.iload_n 1, 1) := by decide +kernel
theorem dX8_told_60 : decode cX8_told 60 = .ok (.ifCond .ne 7, 3) := by decide +kernel
theorem dX8_told_63 : decode cX8_told 63 = .ok (.iload_n 2, 1) := by decide +kernel
theorem dX8_told_64 : decode cX8_told 64 = .ok (.goto 4, 3) := by decide +kernel
theorem dX8_told_67 : decode cX8_told 67 = .ok (.iload_n 3, 1) := by decide +kernel
theorem dX8_told_68 : decode cX8_told 68 = .ok (.ireturn, 1) := by decide +kernel
theorem dX8_sucks_0 : decode cX8_sucks 0 = .ok (.aload_n 0, 1) := by decide +kernel
theorem dX8_sucks_1 : decode cX8_sucks 1 = .ok (.getfield 10, 3) := by decide +kernel
theorem dX8_sucks_4 : decode cX8_sucks 4 = .ok (.getfield 51, 3) := by decide +kernel
theorem dX8_sucks_7 : decode cX8_sucks 7 = .ok (.iload_n 1, 1) := by decide +kernel
theorem dX8_sucks_8 : decode cX8_sucks 8 = .ok (.invokevirtual 115, 3) := by decide +kernel
theorem dX8_sucks_11 : decode cX8_sucks 11 = .ok (.ifCond .eq 12, 3) := by decide +kernel
theorem dX8_sucks_14 : decode cX8_sucks 14 = .ok (.iload_n 2, 1) := by decide +kernel
theorem dX8_sucks_15 : decode cX8_sucks 15 = .ok (.bipush 9, 2) := by decide +kernel
theorem dX8_sucks_17 : decode cX8_sucks 17 = .ok (.invokestatic 64, 3) := by decide +kernel
theorem dX8_sucks_20 : decode cX8_sucks 20 = .ok (.ifCond .ne 8, 3) := by decide +kernel
theorem dX8_sucks_23 : decode cX8_sucks 23 = .ok (.aload_n 0, 1) := by decide +kernel
theorem dX8_sucks_24 : decode cX8_sucks 24 = .ok (.invokevirtual 78, 3) := by decide +kernel
theorem dX8_sucks_27 : decode cX8_sucks 27 = .ok (.ireturn, 1) := by decide +kernel
theorem dX8_sucks_28 : decode cX8_sucks 28 = .ok (.aload_n 0, 1) := by decide +kernel
theorem dX8_sucks_29 : decode cX8_sucks 29 = .ok (.getfield 10, 3) := by decide +kernel
theorem dX8_sucks_32 : decode cX8_sucks 32 = .ok (.getfield 51, 3) := by decide +kernel
theorem dX8_sucks_35 : decode cX8_sucks 35 = .ok (.iload_n 1, 1) := by decide +kernel
theorem dX8_sucks_36 : decode cX8_sucks 36 = .ok (.iconst 0, 1) := by decide +kernel
theorem dX8_sucks_37 : decode cX8_sucks 37 = .ok (.invokevirtual 126, 3) := by decide +kernel
theorem dX8_sucks_40 : decode cX8_sucks 40 = .ok (.istore_n 3, 1) := by decide +kernel
theorem dX8_sucks_41 : decode cX8_sucks 41 = .ok (.aload_n 0, 1) := by decide +kernel
theorem dX8_sucks_42 : decode cX8_sucks 42 = .ok (.getfield 10, 3) := by decide +kernel
theorem dX8_sucks_45 : decode cX8_sucks 45 = .ok (.getfield 51, 3) := by decide +kernel
theorem dX8_sucks_48 : decode cX8_sucks 48 = .ok (.iload_n 1, 1) := by decide +kernel
theorem dX8_sucks_49 : decode cX8_sucks 49 = .ok (.iconst 1, 1) := by decide +kernel
theorem dX8_sucks_50 : decode cX8_sucks 50 = .ok (.invokevirtual 126, 3) := by decide +kernel
theorem dX8_sucks_53 : decode cX8_sucks 53 = .ok (.istore 4, 2) := by decide +kernel
theorem dX8_sucks_55 : decode cX8_sucks 55 = .ok (.aload_n 0, 1) := by decide +kernel
theorem dX8_sucks_56 : decode cX8_sucks 56 = .ok (.getfield 10, 3) := by decide +kernel
theorem dX8_sucks_59 : decode cX8_sucks 59 = .ok (.getfield 51, 3) := by decide +kernel
theorem dX8_sucks_62 : decode cX8_sucks 62 = .ok (.iload_n 1, 1) := by decide +kernel
theorem dX8_sucks_63 : decode cX8_sucks 63 = .ok (.iconst 3, 1) := by decide +kernel
theorem dX8_sucks_64 : decode cX8_sucks 64 = .ok (.invokevirtual 126, 3) := by decide +kernel
theorem dX8_sucks_67 : decode cX8_sucks 67 = .ok (.istore 5, 2) := by decide +kernel
theorem dX8_sucks_69 : decode cX8_sucks 69 = .ok (.aload_n 0, 1) := by decide +kernel
theorem dX8_sucks_70 : decode cX8_sucks 70 = .ok (.getfield 10, 3) := by decide +kernel
theorem dX8_sucks_73 : decode cX8_sucks 73 = .ok (.getfield 51, 3) := by decide +kernel
theorem dX8_sucks_76 : decode cX8_sucks 76 = .ok (.iload_n 1, 1) := by decide +kernel
theorem dX8_sucks_77 : decode cX8_sucks 77 = .ok (.iload_n 2, 1) := by decide +kernel
theorem dX8_sucks_78 : decode cX8_sucks 78 = .ok (.invokevirtual 137, 3) := by decide +kernel
theorem dX8_sucks_81 : decode cX8_sucks 81 = .ok (.istore 6, 2) := by decide +kernel
theorem dX8_sucks_83 : decode cX8_sucks 83 = .ok (.iconst 1, 1) := by decide +kernel
theorem dX8_sucks_84 : decode cX8_sucks 84 = .ok (.istore 7, 2) := by decide +kernel
theorem dX8_sucks_86 : decode cX8_sucks 86 = .ok (.iload 7, 2) := by decide +kernel
theorem dX8_sucks_88 : decode cX8_sucks 88 = .ok (.bipush 9, 2) := by decide +kernel
theorem dX8_sucks_90 : decode cX8_sucks 90 = .ok (.if_icmp .gt 29, 3) := by decide +kernel
theorem dX8_sucks_93 : decode cX8_sucks 93 = .ok (.iload_n 3, 1) := by decide +kernel
theorem dX8_sucks_94 : decode cX8_sucks 94 = .ok (.iload 4, 2) := by decide +kernel
theorem dX8_sucks_96 : decode cX8_sucks 96 = .ok (.iload_n 2, 1) := by decide +kernel
theorem dX8_sucks_97 : decode cX8_sucks 97 = .ok (.iload 5, 2) := by decide +kernel
theorem dX8_sucks_99 : decode cX8_sucks 99 = .ok (.iload 7, 2) := by decide +kernel
theorem dX8_sucks_101 : decode cX8_sucks 101 = .ok (.iadd, 1) := by decide +kernel
theorem dX8_sucks_102 : decode cX8_sucks 102 = .ok (.invokestatic 172, 3) := by decide +kernel
theorem dX8_sucks_105 : decode cX8_sucks 105 = .ok (.iload 6, 2) := by decide +kernel
theorem dX8_sucks_107 : decode cX8_sucks 107 = .ok (.if_icmp .eq 6, 3) := by decide +kernel
theorem dX8_sucks_110 : decode cX8_sucks 110 = .ok (.iload 7, 2) := by decide +kernel
theorem dX8_sucks_112 : decode cX8_sucks 112 = .ok (.ireturn, 1) := by decide +kernel
theorem dX8_sucks_113 : decode cX8_sucks 113 = .ok (.iinc 7 1, 3) := by decide +kernel
theorem dX8_sucks_116 : decode cX8_sucks 116 = .ok (.goto (-30), 3) := by decide +kernel
theorem dX8_sucks_119 : decode cX8_sucks 119 = .ok (.iconst (-1), 1) := by decide +kernel
theorem dX8_sucks_120 : decode cX8_sucks 120 = .ok (.ireturn, 1) := by decide +kernel
theorem dX8_breaks_0 : decode cX8_breaks 0 = .ok (.aload_n 0, 1) := by decide +kernel
theorem dX8_breaks_1 : decode cX8_breaks 1 = .ok (.getfield 10, 3) := by decide +kernel
theorem dX8_breaks_4 : decode cX8_breaks 4 = .ok (.getfield 51, 3) := by decide +kernel
theorem dX8_breaks_7 : decode cX8_breaks 7 = .ok (.iload_n 1, 1) := by decide +kernel
theorem dX8_breaks_8 : decode cX8_breaks 8 = .ok (.invokevirtual 115, 3) := by decide +kernel
theorem dX8_breaks_11 : decode cX8_breaks 11 = .ok (.ifCond .eq 11, 3) := by decide +kernel
theorem dX8_breaks_14 : decode cX8_breaks 14 = .ok (.iload_n 2, 1) := by decide +kernel
theorem dX8_breaks_15 : decode cX8_breaks 15 = .ok (.iconst 2, 1) := by decide +kernel
theorem dX8_breaks_16 : decode cX8_breaks 16 = .ok (.invokestatic 64, 3) := by decide +kernel
theorem dX8_breaks_19 : decode cX8_breaks 19 = .ok (.ifCond .ne 8, 3) := by decide +kernel
theorem dX8_breaks_22 : decode cX8_breaks 22 = .ok (.aload_n 0, 1) := by decide +kernel
theorem dX8_breaks_23 : decode cX8_breaks 23 = .ok (.invokevirtual 78, 3) := by decide +kernel
theorem dX8_breaks_26 : decode cX8_breaks 26 = .ok (.ireturn, 1) := by decide +kernel
theorem dX8_breaks_27 : decode cX8_breaks 27 = .ok (.aload_n 0, 1) := by decide +kernel
theorem dX8_breaks_28 : decode cX8_breaks 28 = .ok (.iload_n 1, 1) := by decide +kernel
theorem dX8_breaks_29 : decode cX8_breaks 29 = .ok (.invokevirtual 175, 3) := by decide +kernel
theorem dX8_breaks_32 : decode cX8_breaks 32 = .ok (.istore_n 3, 1) := by decide +kernel
theorem dX8_breaks_33 : decode cX8_breaks 33 = .ok (.iload_n 3, 1) := by decide +kernel
theorem dX8_breaks_34 : decode cX8_breaks 34 = .ok (.iconst (-1), 1) := by decide +kernel
theorem dX8_breaks_35 : decode cX8_breaks 35 = .ok (.if_icmp .ne 5, 3) := by decide +kernel
theorem dX8_breaks_38 : decode cX8_breaks 38 = .ok (.iconst (-1), 1) := by decide +kernel
theorem dX8_breaks_39 : decode cX8_breaks 39 = .ok (.ireturn, 1) := by decide +kernel
theorem dX8_breaks_40 : decode cX8_breaks 40 = .ok (.iload_n 2, 1) := by decide +kernel
theorem dX8_breaks_41 : decode cX8_breaks 41 = .ok (.ifCond .ne 10, 3) := by decide +kernel
theorem dX8_breaks_44 : decode cX8_breaks 44 = .ok (.iload_n 3, 1) := by decide +kernel
theorem dX8_breaks_45 : decode cX8_breaks 45 = .ok (.invokestatic 178, 3) := by decide +kernel
theorem dX8_breaks_48 : decode cX8_breaks 48 = .ok (.goto 4, 3) := by decide +kernel
theorem dX8_breaks_51 : decode cX8_breaks 51 = .ok (.iload_n 3, 1) := by decide +kernel
theorem dX8_breaks_52 : decode cX8_breaks 52 = .ok (.ireturn, 1) := by decide +kernel
theorem dX8_letters_0 : decode cX8_letters 0 = .ok (.aload_n 0, 1) := by decide +kernel
theorem dX8_letters_1 : decode cX8_letters 1 = .ok (.getfield 10, 3) := by decide +kernel
theorem dX8_letters_4 : decode cX8_letters 4 = .ok (.getfield 51, 3) := by decide +kernel
theorem dX8_letters_7 : decode cX8_letters 7 = .ok (.iload_n 1, 1) := by decide +kernel
theorem dX8_letters_8 : decode cX8_letters 8 = .ok (.invokevirtual 115, 3) := by decide +kernel
theorem dX8_letters_11 : decode cX8_letters 11 = .ok (.ifCond .ne 8, 3) := by decide +kernel
theorem dX8_letters_14 : decode cX8_letters 14 = .ok (.aload_n 0, 1) := by decide +kernel
theorem dX8_letters_15 : decode cX8_letters 15 = .ok (.invokevirtual 78, 3) := by decide +kernel
theorem dX8_letters_18 : decode cX8_letters 18 = .ok (.ireturn, 1) := by decide +kernel
theorem dX8_letters_19 : decode cX8_letters 19 = .ok (.iconst 0, 1) := by decide +kernel
theorem dX8_letters_20 : decode cX8_letters 20 = .ok (.istore_n 2, 1) := by decide +kernel
theorem dX8_letters_21 : decode cX8_letters 21 = .ok (.aload_n 0, 1) := by decide +kernel
theorem dX8_letters_22 : decode cX8_letters 22 = .ok (.getfield 10, 3) := by decide +kernel
theorem dX8_letters_25 : decode cX8_letters 25 = .ok (.getfield 51, 3) := by decide +kernel
theorem dX8_letters_28 : decode cX8_letters 28 = .ok (.iload_n 1, 1) := by decide +kernel
theorem dX8_letters_29 : decode cX8_letters 29 = .ok (.iconst 2, 1) := by decide +kernel
theorem dX8_letters_30 : decode cX8_letters 30 = .ok (.invokevirtual 126, 3) := by decide +kernel
theorem dX8_letters_33 : decode cX8_letters 33 = .ok (.istore_n 3, 1) := by decide +kernel
theorem dX8_letters_34 : decode cX8_letters 34 = .ok (.iconst 0, 1) := by decide +kernel
theorem dX8_letters_35 : decode cX8_letters 35 = .ok (.istore 4, 2) := by decide +kernel
theorem dX8_letters_37 : decode cX8_letters 37 = .ok (.iload 4, 2) := by decide +kernel
theorem dX8_letters_39 : decode cX8_letters 39 = .ok (.iload_n 3, 1) := by decide +kernel
theorem dX8_letters_40 : decode cX8_letters 40 = .ok (.if_icmp .ge 28, 3) := by decide +kernel
theorem dX8_letters_43 : decode cX8_letters 43 = .ok (.iload_n 2, 1) := by decide +kernel
theorem dX8_letters_44 : decode cX8_letters 44 = .ok (.aload_n 0, 1) := by decide +kernel
theorem dX8_letters_45 : decode cX8_letters 45 = .ok (.getfield 10, 3) := by decide +kernel
theorem dX8_letters_48 : decode cX8_letters 48 = .ok (.getfield 51, 3) := by decide +kernel
theorem dX8_letters_51 : decode cX8_letters 51 = .ok (.iload_n 1, 1) := by decide +kernel
theorem dX8_letters_52 : decode cX8_letters 52 = .ok (.iload 4, 2) := by decide +kernel
theorem dX8_letters_54 : decode cX8_letters 54 = .ok (.invokevirtual 137, 3) := by decide +kernel
theorem dX8_letters_57 : decode cX8_letters 57 = .ok (.invokestatic 183, 3) := by decide +kernel
theorem dX8_letters_60 : decode cX8_letters 60 = .ok (.iadd, 1) := by decide +kernel
theorem dX8_letters_61 : decode cX8_letters 61 = .ok (.istore_n 2, 1) := by decide +kernel
theorem dX8_letters_62 : decode cX8_letters 62 = .ok (.iinc 4 1, 3) := by decide +kernel
theorem dX8_letters_65 : decode cX8_letters 65 = .ok (.goto (-28), 3) := by decide +kernel
theorem dX8_letters_68 : decode cX8_letters 68 = .ok (.iload_n 2, 1) := by decide +kernel
theorem dX8_letters_69 : decode cX8_letters 69 = .ok (.ireturn, 1) := by decide +kernel
theorem dX8_row_0 : decode cX8_row 0 = .ok (.iload_n 1, 1) := by decide +kernel
theorem dX8_row_1 : decode cX8_row 1 = .ok (.iconst (-1), 1) := by decide +kernel
theorem dX8_row_2 : decode cX8_row 2 = .ok (.if_icmp .ge 11, 3) := by decide +kernel
theorem dX8_row_5 : decode cX8_row 5 = .ok (.aload_n 0, 1) := by decide +kernel
theorem dX8_row_6 : decode cX8_row 6 = .ok (.invokevirtual 78, 3) := by decide +kernel
theorem dX8_row_9 : decode cX8_row 9 = .ok (.pop, 1) := by decide +kernel
theorem dX8_row_10 : decode cX8_row 10 = .ok (.bipush (-10), 2) := by decide +kernel
theorem dX8_row_12 : decode cX8_row 12 = .ok (.ireturn, 1) := by decide +kernel
theorem dX8_row_13 : decode cX8_row 13 = .ok (.aload_n 0, 1) := by decide +kernel
theorem dX8_row_14 : decode cX8_row 14 = .ok (.getfield 10, 3) := by decide +kernel
theorem dX8_row_17 : decode cX8_row 17 = .ok (.getfield 51, 3) := by decide +kernel
theorem dX8_row_20 : decode cX8_row 20 = .ok (.invokevirtual 55, 3) := by decide +kernel
theorem dX8_row_23 : decode cX8_row 23 = .ok (.ifCond .ne 5, 3) := by decide +kernel
theorem dX8_row_26 : decode cX8_row 26 = .ok (.iconst (-1), 1) := by decide +kernel
theorem dX8_row_27 : decode cX8_row 27 = .ok (.ireturn, 1) := by decide +kernel
theorem dX8_row_28 : decode cX8_row 28 = .ok (.iload_n 1, 1) := by decide +kernel
theorem dX8_row_29 : decode cX8_row 29 = .ok (.aload_n 0, 1) := by decide +kernel
theorem dX8_row_30 : decode cX8_row 30 = .ok (.getfield 10, 3) := by decide +kernel
theorem dX8_row_33 : decode cX8_row 33 = .ok (.getfield 51, 3) := by decide +kernel
theorem dX8_row_36 : decode cX8_row 36 = .ok (.invokevirtual 55, 3) := by decide +kernel
theorem dX8_row_39 : decode cX8_row 39 = .ok (.if_icmp .lt 6, 3) := by decide +kernel
theorem dX8_row_42 : decode cX8_row 42 = .ok (.bipush (-5), 2) := by decide +kernel
theorem dX8_row_44 : decode cX8_row 44 = .ok (.ireturn, 1) := by decide +kernel
theorem dX8_row_45 : decode cX8_row 45 = .ok (.aload_n 0, 1) := by decide +kernel
theorem dX8_row_46 : decode cX8_row 46 = .ok (.getfield 30, 3) := by decide +kernel
theorem dX8_row_49 : decode cX8_row 49 = .ok (.aload_n 0, 1) := by decide +kernel
theorem dX8_row_50 : decode cX8_row 50 = .ok (.getfield 10, 3) := by decide +kernel
theorem dX8_row_53 : decode cX8_row 53 = .ok (.getfield 51, 3) := by decide +kernel
theorem dX8_row_56 : decode cX8_row 56 = .ok (.invokevirtual 186, 3) := by decide +kernel
theorem dX8_row_59 : decode cX8_row 59 = .ok (.iload_n 1, 1) := by decide +kernel
theorem dX8_row_60 : decode cX8_row 60 = .ok (.iconst (-1), 1) := by decide +kernel
theorem dX8_row_61 : decode cX8_row 61 = .ok (.if_icmp .ne 13, 3) := by decide +kernel
theorem dX8_row_64 : decode cX8_row 64 = .ok (.aload_n 0, 1) := by decide +kernel
theorem dX8_row_65 : decode cX8_row 65 = .ok (.getfield 30, 3) := by decide +kernel
theorem dX8_row_68 : decode cX8_row 68 = .ok (.getfield 189, 3) := by decide +kernel
theorem dX8_row_71 : decode cX8_row 71 = .ok (.goto 11, 3) := by decide +kernel
theorem dX8_row_74 : decode cX8_row 74 = .ok (.aload_n 0, 1) := by decide +kernel
theorem dX8_row_75 : decode cX8_row 75 = .ok (.getfield 30, 3) := by decide +kernel
theorem dX8_row_78 : decode cX8_row 78 = .ok (.iload_n 1, 1) := by decide +kernel
theorem dX8_row_79 : decode cX8_row 79 = .ok (.invokevirtual 193, 3) := by decide +kernel
theorem dX8_row_82 : decode cX8_row 82 = .ok (.ireturn, 1) := by decide +kernel
theorem dX8_note_0 : decode cX8_note 0 = .ok (.aload_n 0, 1) := by decide +kernel
theorem dX8_note_1 : decode cX8_note 1 = .ok (.getfield 10, 3) := by decide +kernel
theorem dX8_note_4 : decode cX8_note 4 = .ok (.getfield 51, 3) := by decide +kernel
theorem dX8_note_7 : decode cX8_note 7 = .ok (.iload_n 1, 1) := by decide +kernel
theorem dX8_note_8 : decode cX8_note 8 = .ok (.invokevirtual 115, 3) := by decide +kernel
theorem dX8_note_11 : decode cX8_note 11 = .ok (.ifCond .eq 25, 3) := by decide +kernel
theorem dX8_note_14 : decode cX8_note 14 = .ok (.iload_n 2, 1) := by decide +kernel
theorem dX8_note_15 : decode cX8_note 15 = .ok (.bipush 9, 2) := by decide +kernel
theorem dX8_note_17 : decode cX8_note 17 = .ok (.invokestatic 64, 3) := by decide +kernel
theorem dX8_note_20 : decode cX8_note 20 = .ok (.ifCond .eq 16, 3) := by decide +kernel
theorem dX8_note_23 : decode cX8_note 23 = .ok (.iload_n 3, 1) := by decide +kernel
theorem dX8_note_24 : decode cX8_note 24 = .ok (.bipush 10, 2) := by decide +kernel
theorem dX8_note_26 : decode cX8_note 26 = .ok (.invokestatic 64, 3) := by decide +kernel
theorem dX8_note_29 : decode cX8_note 29 = .ok (.ifCond .eq 7, 3) := by decide +kernel
theorem dX8_note_32 : decode cX8_note 32 = .ok (.iconst 1, 1) := by decide +kernel
theorem dX8_note_33 : decode cX8_note 33 = .ok (.goto 4, 3) := by decide +kernel
theorem dX8_note_36 : decode cX8_note 36 = .ok (.iconst 0, 1) := by decide +kernel
theorem dX8_note_37 : decode cX8_note 37 = .ok (.istore 5, 2) := by decide +kernel
theorem dX8_note_39 : decode cX8_note 39 = .ok (.iload 5, 2) := by decide +kernel
theorem dX8_note_41 : decode cX8_note 41 = .ok (.ifCond .eq 11, 3) := by decide +kernel
theorem dX8_note_44 : decode cX8_note 44 = .ok (.iload 4, 2) := by decide +kernel
theorem dX8_note_46 : decode cX8_note 46 = .ok (.invokestatic 196, 3) := by decide +kernel
theorem dX8_note_49 : decode cX8_note 49 = .ok (.ifCond .ne 8, 3) := by decide +kernel
theorem dX8_note_52 : decode cX8_note 52 = .ok (.aload_n 0, 1) := by decide +kernel
theorem dX8_note_53 : decode cX8_note 53 = .ok (.invokevirtual 78, 3) := by decide +kernel
theorem dX8_note_56 : decode cX8_note 56 = .ok (.ireturn, 1) := by decide +kernel
theorem dX8_note_57 : decode cX8_note 57 = .ok (.aload_n 0, 1) := by decide +kernel
theorem dX8_note_58 : decode cX8_note 58 = .ok (.getfield 10, 3) := by decide +kernel
theorem dX8_note_61 : decode cX8_note 61 = .ok (.getfield 143, 3) := by decide +kernel
theorem dX8_note_64 : decode cX8_note 64 = .ok (.invokevirtual 199, 3) := by decide +kernel
theorem dX8_note_67 : decode cX8_note 67 = .ok (.ifCond .eq 8, 3) := by decide +kernel
theorem dX8_note_70 : decode cX8_note 70 = .ok (.aload_n 0, 1) := by decide +kernel
theorem dX8_note_71 : decode cX8_note 71 = .ok (.invokevirtual 85, 3) := by decide +kernel
theorem dX8_note_74 : decode cX8_note 74 = .ok (.ireturn, 1) := by decide +kernel
theorem dX8_note_75 : decode cX8_note 75 = .ok (.aload_n 0, 1) := by decide +kernel
theorem dX8_note_76 : decode cX8_note 76 = .ok (.getfield 10, 3) := by decide +kernel
theorem dX8_note_79 : decode cX8_note 79 = .ok (.getfield 143, 3) := by decide +kernel
theorem dX8_note_82 : decode cX8_note 82 = .ok (.iload_n 1, 1) := by decide +kernel
theorem dX8_note_83 : decode cX8_note 83 = .ok (.iload_n 2, 1) := by decide +kernel
theorem dX8_note_84 : decode cX8_note 84 = .ok (.iload_n 3, 1) := by decide +kernel
theorem dX8_note_85 : decode cX8_note 85 = .ok (.iload 4, 2) := by decide +kernel
theorem dX8_note_87 : decode cX8_note 87 = .ok (.invokevirtual 200, 3) := by decide +kernel
theorem dX8_note_90 : decode cX8_note 90 = .ok (.pop, 1) := by decide +kernel
theorem dX8_note_91 : decode cX8_note 91 = .ok (.aload_n 0, 1) := by decide +kernel
theorem dX8_note_92 : decode cX8_note 92 = .ok (.getfield 10, 3) := by decide +kernel
theorem dX8_note_95 : decode cX8_note 95 = .ok (.getfield 143, 3) := by decide +kernel
theorem dX8_note_98 : decode cX8_note 98 = .ok (.invokevirtual 201, 3) := by decide +kernel
theorem dX8_note_101 : decode cX8_note 101 = .ok (.ireturn, 1) := by decide +kernel
theorem dX8_forget_0 : decode cX8_forget 0 = .ok (.aload_n 0, 1) := by decide +kernel
theorem dX8_forget_1 : decode cX8_forget 1 = .ok (.getfield 10, 3) := by decide +kernel
theorem dX8_forget_4 : decode cX8_forget 4 = .ok (.getfield 143, 3) := by decide +kernel
theorem dX8_forget_7 : decode cX8_forget 7 = .ok (.invokevirtual 201, 3) := by decide +kernel
theorem dX8_forget_10 : decode cX8_forget 10 = .ok (.istore_n 1, 1) := by decide +kernel
theorem dX8_forget_11 : decode cX8_forget 11 = .ok (.aload_n 0, 1) := by decide +kernel
theorem dX8_forget_12 : decode cX8_forget 12 = .ok (.getfield 10, 3) := by decide +kernel
theorem dX8_forget_15 : decode cX8_forget 15 = .ok (.getfield 143, 3) := by decide +kernel
theorem dX8_forget_18 : decode cX8_forget 18 = .ok (.invokevirtual 147, 3) := by decide +kernel
theorem dX8_forget_21 : decode cX8_forget 21 = .ok (.iload_n 1, 1) := by decide +kernel
theorem dX8_forget_22 : decode cX8_forget 22 = .ok (.ireturn, 1) := by decide +kernel
theorem dX8_is_0 : decode cX8_is 0 = .ok (.aload_n 0, 1) := by decide +kernel
theorem dX8_is_1 : decode cX8_is 1 = .ok (.getfield 10, 3) := by decide +kernel
theorem dX8_is_4 : decode cX8_is 4 = .ok (.getfield 51, 3) := by decide +kernel
theorem dX8_is_7 : decode cX8_is 7 = .ok (.iload_n 1, 1) := by decide +kernel
theorem dX8_is_8 : decode cX8_is 8 = .ok (.invokevirtual 115, 3) := by decide +kernel
theorem dX8_is_11 : decode cX8_is 11 = .ok (.ifCond .eq 11, 3) := by decide +kernel
theorem dX8_is_14 : decode cX8_is 14 = .ok (.aload_n 0, 1) := by decide +kernel
theorem dX8_is_15 : decode cX8_is 15 = .ok (.iload_n 1, 1) := by decide +kernel
theorem dX8_is_16 : decode cX8_is 16 = .ok (.invokevirtual 202, 3) := by decide +kernel
theorem dX8_is_19 : decode cX8_is 19 = .ok (.goto 7, 3) := by decide +kernel
theorem dX8_is_22 : decode cX8_is 22 = .ok (.aload_n 0, 1) := by decide +kernel
theorem dX8_is_23 : decode cX8_is 23 = .ok (.invokevirtual 78, 3) := by decide +kernel
theorem dX8_is_26 : decode cX8_is 26 = .ok (.ireturn, 1) := by decide +kernel
theorem dX8_next_0 : decode cX8_next 0 = .ok (.aload_n 0, 1) := by decide +kernel
theorem dX8_next_1 : decode cX8_next 1 = .ok (.getfield 10, 3) := by decide +kernel
theorem dX8_next_4 : decode cX8_next 4 = .ok (.getfield 51, 3) := by decide +kernel
theorem dX8_next_7 : decode cX8_next 7 = .ok (.iload_n 1, 1) := by decide +kernel
theorem dX8_next_8 : decode cX8_next 8 = .ok (.invokevirtual 115, 3) := by decide +kernel
theorem dX8_next_11 : decode cX8_next 11 = .ok (.ifCond .ne 8, 3) := by decide +kernel
theorem dX8_next_14 : decode cX8_next 14 = .ok (.aload_n 0, 1) := by decide +kernel
theorem dX8_next_15 : decode cX8_next 15 = .ok (.invokevirtual 78, 3) := by decide +kernel
theorem dX8_next_18 : decode cX8_next 18 = .ok (.ireturn, 1) := by decide +kernel
theorem dX8_next_19 : decode cX8_next 19 = .ok (.aload_n 0, 1) := by decide +kernel
theorem dX8_next_20 : decode cX8_next 20 = .ok (.iload_n 1, 1) := by decide +kernel
theorem dX8_next_21 : decode cX8_next 21 = .ok (.invokevirtual 202, 3) := by decide +kernel
theorem dX8_next_24 : decode cX8_next 24 = .ok (.istore_n 2, 1) := by decide +kernel
theorem dX8_next_25 : decode cX8_next 25 = .ok (.iload_n 2, 1) := by decide +kernel
theorem dX8_next_26 : decode cX8_next 26 = .ok (.ifCond .ne 5, 3) := by decide +kernel
theorem dX8_next_29 : decode cX8_next 29 = .ok (.iconst (-1), 1) := by decide +kernel
theorem dX8_next_30 : decode cX8_next 30 = .ok (.ireturn, 1) := by decide +kernel
theorem dX8_next_31 : decode cX8_next 31 = .ok (.iconst 0, 1) := by decide +kernel
theorem dX8_next_32 : decode cX8_next 32 = .ok (.istore_n 3, 1) := by decide +kernel
theorem dX8_next_33 : decode cX8_next 33 = .ok (.bipush 7, 2) := by decide +kernel
theorem dX8_next_35 : decode cX8_next 35 = .ok (.istore 4, 2) := by decide +kernel
theorem dX8_next_37 : decode cX8_next 37 = .ok (.iconst 0, 1) := by decide +kernel
theorem dX8_next_38 : decode cX8_next 38 = .ok (.istore 5, 2) := by decide +kernel
theorem dX8_next_40 : decode cX8_next 40 = .ok (.iload 5, 2) := by decide +kernel
theorem dX8_next_42 : decode cX8_next 42 = .ok (.bipush 9, 2) := by decide +kernel
theorem dX8_next_44 : decode cX8_next 44 = .ok (.if_icmp .ge 33, 3) := by decide +kernel
theorem dX8_next_47 : decode cX8_next 47 = .ok (.aload_n 0, 1) := by decide +kernel
theorem dX8_next_48 : decode cX8_next 48 = .ok (.iload_n 1, 1) := by decide +kernel
theorem dX8_next_49 : decode cX8_next 49 = .ok (.iload_n 2, 1) := by decide +kernel
theorem dX8_next_50 : decode cX8_next 50 = .ok (.iload 5, 2) := by decide +kernel
theorem dX8_next_52 : decode cX8_next 52 = .ok (.invokevirtual 205, 3) := by decide +kernel
theorem dX8_next_55 : decode cX8_next 55 = .ok (.istore 6, 2) := by decide +kernel
theorem dX8_next_57 : decode cX8_next 57 = .ok (.iload 6, 2) := by decide +kernel
theorem dX8_next_59 : decode cX8_next 59 = .ok (.iload 4, 2) := by decide +kernel
theorem dX8_next_61 : decode cX8_next 61 = .ok (.if_icmp .ge 10, 3) := by decide +kernel
theorem dX8_next_64 : decode cX8_next 64 = .ok (.iload 6, 2) := by decide +kernel
theorem dX8_next_66 : decode cX8_next 66 = .ok (.istore 4, 2) := by decide +kernel
theorem dX8_next_68 : decode cX8_next 68 = .ok (.iload 5, 2) := by decide +kernel
theorem dX8_next_70 : decode cX8_next 70 = .ok (.istore_n 3, 1) := by decide +kernel
theorem dX8_next_71 : decode cX8_next 71 = .ok (.iinc 5 1, 3) := by decide +kernel
theorem dX8_next_74 : decode cX8_next 74 = .ok (.goto (-34), 3) := by decide +kernel
theorem dX8_next_77 : decode cX8_next 77 = .ok (.iload_n 3, 1) := by decide +kernel
theorem dX8_next_78 : decode cX8_next 78 = .ok (.ireturn, 1) := by decide +kernel
theorem dX8_names_0 : decode cX8_names 0 = .ok (.aload_n 0, 1) := by decide +kernel
theorem dX8_names_1 : decode cX8_names 1 = .ok (.getfield 10, 3) := by decide +kernel
theorem dX8_names_4 : decode cX8_names 4 = .ok (.getfield 51, 3) := by decide +kernel
theorem dX8_names_7 : decode cX8_names 7 = .ok (.iload_n 1, 1) := by decide +kernel
theorem dX8_names_8 : decode cX8_names 8 = .ok (.invokevirtual 115, 3) := by decide +kernel
theorem dX8_names_11 : decode cX8_names 11 = .ok (.ifCond .eq 11, 3) := by decide +kernel
theorem dX8_names_14 : decode cX8_names 14 = .ok (.iload_n 2, 1) := by decide +kernel
theorem dX8_names_15 : decode cX8_names 15 = .ok (.iconst 2, 1) := by decide +kernel
theorem dX8_names_16 : decode cX8_names 16 = .ok (.invokestatic 64, 3) := by decide +kernel
theorem dX8_names_19 : decode cX8_names 19 = .ok (.ifCond .ne 8, 3) := by decide +kernel
theorem dX8_names_22 : decode cX8_names 22 = .ok (.aload_n 0, 1) := by decide +kernel
theorem dX8_names_23 : decode cX8_names 23 = .ok (.invokevirtual 78, 3) := by decide +kernel
theorem dX8_names_26 : decode cX8_names 26 = .ok (.ireturn, 1) := by decide +kernel
theorem dX8_names_27 : decode cX8_names 27 = .ok (.aload_n 0, 1) := by decide +kernel
theorem dX8_names_28 : decode cX8_names 28 = .ok (.getfield 10, 3) := by decide +kernel
theorem dX8_names_31 : decode cX8_names 31 = .ok (.getfield 51, 3) := by decide +kernel
theorem dX8_names_34 : decode cX8_names 34 = .ok (.iload_n 1, 1) := by decide +kernel
theorem dX8_names_35 : decode cX8_names 35 = .ok (.iconst 0, 1) := by decide +kernel
theorem dX8_names_36 : decode cX8_names 36 = .ok (.invokevirtual 126, 3) := by decide +kernel
theorem dX8_names_39 : decode cX8_names 39 = .ok (.istore_n 3, 1) := by decide +kernel
theorem dX8_names_40 : decode cX8_names 40 = .ok (.iconst 0, 1) := by decide +kernel
theorem dX8_names_41 : decode cX8_names 41 = .ok (.istore 4, 2) := by decide +kernel
theorem dX8_names_43 : decode cX8_names 43 = .ok (.iconst (-1), 1) := by decide +kernel
theorem dX8_names_44 : decode cX8_names 44 = .ok (.istore 5, 2) := by decide +kernel
theorem dX8_names_46 : decode cX8_names 46 = .ok (.iconst 1, 1) := by decide +kernel
theorem dX8_names_47 : decode cX8_names 47 = .ok (.istore 6, 2) := by decide +kernel
theorem dX8_names_49 : decode cX8_names 49 = .ok (.iload 6, 2) := by decide +kernel
theorem dX8_names_51 : decode cX8_names 51 = .ok (.sipush 340, 3) := by decide +kernel
theorem dX8_names_54 : decode cX8_names 54 = .ok (.if_icmp .gt 51, 3) := by decide +kernel
theorem dX8_names_57 : decode cX8_names 57 = .ok (.iload 6, 2) := by decide +kernel
theorem dX8_names_59 : decode cX8_names 59 = .ok (.invokestatic 209, 3) := by decide +kernel
theorem dX8_names_62 : decode cX8_names 62 = .ok (.istore 7, 2) := by decide +kernel
theorem dX8_names_64 : decode cX8_names 64 = .ok (.aload_n 0, 1) := by decide +kernel
theorem dX8_names_65 : decode cX8_names 65 = .ok (.getfield 10, 3) := by decide +kernel
theorem dX8_names_68 : decode cX8_names 68 = .ok (.getfield 143, 3) := by decide +kernel
theorem dX8_names_71 : decode cX8_names 71 = .ok (.iload_n 1, 1) := by decide +kernel
theorem dX8_names_72 : decode cX8_names 72 = .ok (.iload_n 3, 1) := by decide +kernel
theorem dX8_names_73 : decode cX8_names 73 = .ok (.iload 7, 2) := by decide +kernel
theorem dX8_names_75 : decode cX8_names 75 = .ok (.invokevirtual 212, 3) := by decide +kernel
theorem dX8_names_78 : decode cX8_names 78 = .ok (.ifCond .eq 21, 3) := by decide +kernel
theorem dX8_names_81 : decode cX8_names 81 = .ok (.iinc 4 1, 3) := by decide +kernel
theorem dX8_names_84 : decode cX8_names 84 = .ok (.iload 5, 2) := by decide +kernel
theorem dX8_names_86 : decode cX8_names 86 = .ok (.iconst (-1), 1) := by decide +kernel
theorem dX8_names_87 : decode cX8_names 87 = .ok (.if_icmp .ne 8, 3) := by decide +kernel
theorem dX8_names_90 : decode cX8_names 90 = .ok (.iload 7, 2) := by decide +kernel
theorem dX8_names_92 : decode cX8_names 92 = .ok (.goto 5, 3) := by decide +kernel
theorem dX8_names_95 : decode cX8_names 95 = .ok (.iload 5, 2) := by decide +kernel
theorem dX8_names_97 : decode cX8_names 97 = .ok (.istore 5, 2) := by decide +kernel
theorem dX8_names_99 : decode cX8_names 99 = .ok (.iinc 6 1, 3) := by decide +kernel
theorem dX8_names_102 : decode cX8_names 102 = .ok (.goto (-53), 3) := by decide +kernel
theorem dX8_names_105 : decode cX8_names 105 = .ok (.iload_n 2, 1) := by decide +kernel
theorem dX8_names_106 : decode cX8_names 106 = .ok (.ifCond .ne 8, 3) := by decide +kernel
theorem dX8_names_109 : decode cX8_names 109 = .ok (.iload 4, 2) := by decide +kernel
theorem dX8_names_111 : decode cX8_names 111 = .ok (.goto 5, 3) := by decide +kernel
theorem dX8_names_114 : decode cX8_names 114 = .ok (.iload 5, 2) := by decide +kernel
theorem dX8_names_116 : decode cX8_names 116 = .ok (.ireturn, 1) := by decide +kernel
theorem dX8_whose_0 : decode cX8_whose 0 = .ok (.iload_n 1, 1) := by decide +kernel
theorem dX8_whose_1 : decode cX8_whose 1 = .ok (.bipush 9, 2) := by decide +kernel
theorem dX8_whose_3 : decode cX8_whose 3 = .ok (.invokestatic 64, 3) := by decide +kernel
theorem dX8_whose_6 : decode cX8_whose 6 = .ok (.ifCond .eq 10, 3) := by decide +kernel
theorem dX8_whose_9 : decode cX8_whose 9 = .ok (.iload_n 2, 1) := by decide +kernel
theorem dX8_whose_10 : decode cX8_whose 10 = .ok (.invokestatic 196, 3) := by decide +kernel
theorem dX8_whose_13 : decode cX8_whose 13 = .ok (.ifCond .ne 8, 3) := by decide +kernel
theorem dX8_whose_16 : decode cX8_whose 16 = .ok (.aload_n 0, 1) := by decide +kernel
theorem dX8_whose_17 : decode cX8_whose 17 = .ok (.invokevirtual 78, 3) := by decide +kernel
theorem dX8_whose_20 : decode cX8_whose 20 = .ok (.ireturn, 1) := by decide +kernel
theorem dX8_whose_21 : decode cX8_whose 21 = .ok (.aload_n 0, 1) := by decide +kernel
theorem dX8_whose_22 : decode cX8_whose 22 = .ok (.getfield 10, 3) := by decide +kernel
theorem dX8_whose_25 : decode cX8_whose 25 = .ok (.getfield 51, 3) := by decide +kernel
theorem dX8_whose_28 : decode cX8_whose 28 = .ok (.iload_n 1, 1) := by decide +kernel
theorem dX8_whose_29 : decode cX8_whose 29 = .ok (.iload_n 2, 1) := by decide +kernel
theorem dX8_whose_30 : decode cX8_whose 30 = .ok (.invokevirtual 165, 3) := by decide +kernel
theorem dX8_whose_33 : decode cX8_whose 33 = .ok (.ireturn, 1) := by decide +kernel
theorem dX8_court_0 : decode cX8_court 0 = .ok (.aload_n 0, 1) := by decide +kernel
theorem dX8_court_1 : decode cX8_court 1 = .ok (.iload_n 1, 1) := by decide +kernel
theorem dX8_court_2 : decode cX8_court 2 = .ok (.iload_n 2, 1) := by decide +kernel
theorem dX8_court_3 : decode cX8_court 3 = .ok (.invokevirtual 140, 3) := by decide +kernel
theorem dX8_court_6 : decode cX8_court 6 = .ok (.ifCond .ne 8, 3) := by decide +kernel
theorem dX8_court_9 : decode cX8_court 9 = .ok (.aload_n 0, 1) := by decide +kernel
theorem dX8_court_10 : decode cX8_court 10 = .ok (.invokevirtual 78, 3) := by decide +kernel
theorem dX8_court_13 : decode cX8_court 13 = .ok (.ireturn, 1) := by decide +kernel
theorem dX8_court_14 : decode cX8_court 14 = .ok (.aload_n 0, 1) := by decide +kernel
theorem dX8_court_15 : decode cX8_court 15 = .ok (.iload_n 1, 1) := by decide +kernel
theorem dX8_court_16 : decode cX8_court 16 = .ok (.iload_n 2, 1) := by decide +kernel
theorem dX8_court_17 : decode cX8_court 17 = .ok (.invokevirtual 215, 3) := by decide +kernel
theorem dX8_court_20 : decode cX8_court 20 = .ok (.istore_n 3, 1) := by decide +kernel
theorem dX8_court_21 : decode cX8_court 21 = .ok (.iconst 0, 1) := by decide +kernel
theorem dX8_court_22 : decode cX8_court 22 = .ok (.istore 4, 2) := by decide +kernel
theorem dX8_court_24 : decode cX8_court 24 = .ok (.iconst 0, 1) := by decide +kernel
theorem dX8_court_25 : decode cX8_court 25 = .ok (.istore 5, 2) := by decide +kernel
theorem dX8_court_27 : decode cX8_court 27 = .ok (.iload 5, 2) := by decide +kernel
theorem dX8_court_29 : decode cX8_court 29 = .ok (.iconst 4, 1) := by decide +kernel
theorem dX8_court_30 : decode cX8_court 30 = .ok (.if_icmp .ge 27, 3) := by decide +kernel
theorem dX8_court_33 : decode cX8_court 33 = .ok (.iload_n 3, 1) := by decide +kernel
theorem dX8_court_34 : decode cX8_court 34 = .ok (.iload 5, 2) := by decide +kernel
theorem dX8_court_36 : decode cX8_court 36 = .ok (.invokestatic 218, 3) := by decide +kernel
theorem dX8_court_39 : decode cX8_court 39 = .ok (.ifCond .eq 12, 3) := by decide +kernel
theorem dX8_court_42 : decode cX8_court 42 = .ok (.iload 4, 2) := by decide +kernel
theorem dX8_court_44 : decode cX8_court 44 = .ok (.iconst 1, 1) := by decide +kernel
theorem dX8_court_45 : decode cX8_court 45 = .ok (.iload 5, 2) := by decide +kernel
theorem dX8_court_47 : decode cX8_court 47 = .ok (.ishl, 1) := by decide +kernel
theorem dX8_court_48 : decode cX8_court 48 = .ok (.ior, 1) := by decide +kernel
theorem dX8_court_49 : decode cX8_court 49 = .ok (.istore 4, 2) := by decide +kernel
theorem dX8_court_51 : decode cX8_court 51 = .ok (.iinc 5 1, 3) := by decide +kernel
theorem dX8_court_54 : decode cX8_court 54 = .ok (.goto (-27), 3) := by decide +kernel
theorem dX8_court_57 : decode cX8_court 57 = .ok (.iload 4, 2) := by decide +kernel
theorem dX8_court_59 : decode cX8_court 59 = .ok (.ireturn, 1) := by decide +kernel
theorem dX8_rain_0 : decode cX8_rain 0 = .ok (.aload_n 0, 1) := by decide +kernel
theorem dX8_rain_1 : decode cX8_rain 1 = .ok (.getfield 10, 3) := by decide +kernel
theorem dX8_rain_4 : decode cX8_rain 4 = .ok (.getfield 51, 3) := by decide +kernel
theorem dX8_rain_7 : decode cX8_rain 7 = .ok (.iload_n 1, 1) := by decide +kernel
theorem dX8_rain_8 : decode cX8_rain 8 = .ok (.invokevirtual 115, 3) := by decide +kernel
theorem dX8_rain_11 : decode cX8_rain 11 = .ok (.ifCond .eq 13, 3) := by decide +kernel
theorem dX8_rain_14 : decode cX8_rain 14 = .ok (.iload_n 2, 1) := by decide +kernel
theorem dX8_rain_15 : decode cX8_rain 15 = .ok (.iconst 0, 1) := by decide +kernel
theorem dX8_rain_16 : decode cX8_rain 16 = .ok (.bipush 10, 2) := by decide +kernel
theorem dX8_rain_18 : decode cX8_rain 18 = .ok (.invokestatic 74, 3) := by decide +kernel
theorem dX8_rain_21 : decode cX8_rain 21 = .ok (.ifCond .ne 8, 3) := by decide +kernel
theorem dX8_rain_24 : decode cX8_rain 24 = .ok (.aload_n 0, 1) := by decide +kernel
theorem dX8_rain_25 : decode cX8_rain 25 = .ok (.invokevirtual 78, 3) := by decide +kernel
theorem dX8_rain_28 : decode cX8_rain 28 = .ok (.ireturn, 1) := by decide +kernel
theorem dX8_rain_29 : decode cX8_rain 29 = .ok (.aload_n 0, 1) := by decide +kernel
theorem dX8_rain_30 : decode cX8_rain 30 = .ok (.aload_n 0, 1) := by decide +kernel
theorem dX8_rain_31 : decode cX8_rain 31 = .ok (.getfield 10, 3) := by decide +kernel
theorem dX8_rain_34 : decode cX8_rain 34 = .ok (.getfield 51, 3) := by decide +kernel
theorem dX8_rain_37 : decode cX8_rain 37 = .ok (.iload_n 1, 1) := by decide +kernel
theorem dX8_rain_38 : decode cX8_rain 38 = .ok (.iconst 2, 1) := by decide +kernel
theorem dX8_rain_39 : decode cX8_rain 39 = .ok (.invokevirtual 126, 3) := by decide +kernel
theorem dX8_rain_42 : decode cX8_rain 42 = .ok (.bipush 10, 2) := by decide +kernel
theorem dX8_rain_44 : decode cX8_rain 44 = .ok (.iload_n 2, 1) := by decide +kernel
theorem dX8_rain_45 : decode cX8_rain 45 = .ok (.isub, 1) := by decide +kernel
theorem dX8_rain_46 : decode cX8_rain 46 = .ok (.imul, 1) := by decide +kernel
theorem dX8_rain_47 : decode cX8_rain 47 = .ok (.i2l, 1) := by decide +kernel
theorem dX8_rain_48 : decode cX8_rain 48 = .ok (.putfield 44, 3) := by decide +kernel
theorem dX8_rain_51 : decode cX8_rain 51 = .ok (.aload_n 0, 1) := by decide +kernel
theorem dX8_rain_52 : decode cX8_rain 52 = .ok (.ldc2_w 221, 3) := by decide +kernel
theorem dX8_rain_55 : decode cX8_rain 55 = .ok (.putfield 48, 3) := by decide +kernel
theorem dX8_rain_58 : decode cX8_rain 58 = .ok (.aload_n 0, 1) := by decide +kernel
theorem dX8_rain_59 : decode cX8_rain 59 = .ok (.getfield 44, 3) := by decide +kernel
theorem dX8_rain_62 : decode cX8_rain 62 = .ok (.ldc2_w 223, 3) := by decide +kernel
theorem dX8_rain_65 : decode cX8_rain 65 = .ok (.lrem, 1) := by decide +kernel
theorem dX8_rain_66 : decode cX8_rain 66 = .ok (.lconst 0, 1) := by decide +kernel
theorem dX8_rain_67 : decode cX8_rain 67 = .ok (.lcmp, 1) := by decide +kernel
theorem dX8_rain_68 : decode cX8_rain 68 = .ok (.ifCond .ne 27, 3) := by decide +kernel
theorem dX8_rain_71 : decode cX8_rain 71 = .ok (.aload_n 0, 1) := by decide +kernel
theorem dX8_rain_72 : decode cX8_rain 72 = .ok (.dup, 1) := by decide +kernel
theorem dX8_rain_73 : decode cX8_rain 73 = .ok (.getfield 44, 3) := by decide +kernel
theorem dX8_rain_76 : decode cX8_rain 76 = .ok (.ldc2_w 223, 3) := by decide +kernel
theorem dX8_rain_79 : decode cX8_rain 79 = .ok (.ldiv, 1) := by decide +kernel
theorem dX8_rain_80 : decode cX8_rain 80 = .ok (.putfield 44, 3) := by decide +kernel
theorem dX8_rain_83 : decode cX8_rain 83 = .ok (.aload_n 0, 1) := by decide +kernel
theorem dX8_rain_84 : decode cX8_rain 84 = .ok (.dup, 1) := by decide +kernel
theorem dX8_rain_85 : decode cX8_rain 85 = .ok (.getfield 48, 3) := by decide +kernel
theorem dX8_rain_88 : decode cX8_rain 88 = .ok (.ldc2_w 223, 3) := by decide +kernel
theorem dX8_rain_91 : decode cX8_rain 91 = .ok (.ldiv, 1) := by decide +kernel
theorem dX8_rain_92 : decode cX8_rain 92 = .ok (.putfield 48, 3) := by decide +kernel
theorem dX8_rain_95 : decode cX8_rain 95 = .ok (.aload_n 0, 1) := by decide +kernel
theorem dX8_rain_96 : decode cX8_rain 96 = .ok (.getfield 44, 3) := by decide +kernel
theorem dX8_rain_99 : decode cX8_rain 99 = .ok (.ldc2_w 225, 3) := by decide +kernel
theorem dX8_rain_102 : decode cX8_rain 102 = .ok (.lrem, 1) := by decide +kernel
theorem dX8_rain_103 : decode cX8_rain 103 = .ok (.lconst 0, 1) := by decide +kernel
theorem dX8_rain_104 : decode cX8_rain 104 = .ok (.lcmp, 1) := by decide +kernel
theorem dX8_rain_105 : decode cX8_rain 105 = .ok (.ifCond .ne 27, 3) := by decide +kernel
theorem dX8_rain_108 : decode cX8_rain 108 = .ok (.aload_n 0, 1) := by decide +kernel
theorem dX8_rain_109 : decode cX8_rain 109 = .ok (.dup, 1) := by decide +kernel
theorem dX8_rain_110 : decode cX8_rain 110 = .ok (.getfield 44, 3) := by decide +kernel
theorem dX8_rain_113 : decode cX8_rain 113 = .ok (.ldc2_w 225, 3) := by decide +kernel
theorem dX8_rain_116 : decode cX8_rain 116 = .ok (.ldiv, 1) := by decide +kernel
theorem dX8_rain_117 : decode cX8_rain 117 = .ok (.putfield 44, 3) := by decide +kernel
theorem dX8_rain_120 : decode cX8_rain 120 = .ok (.aload_n 0, 1) := by decide +kernel
theorem dX8_rain_121 : decode cX8_rain 121 = .ok (.dup, 1) := by decide +kernel
theorem dX8_rain_122 : decode cX8_rain 122 = .ok (.getfield 48, 3) := by decide +kernel
theorem dX8_rain_125 : decode cX8_rain 125 = .ok (.ldc2_w 225, 3) := by decide +kernel
theorem dX8_rain_128 : decode cX8_rain 128 = .ok (.ldiv, 1) := by decide +kernel
theorem dX8_rain_129 : decode cX8_rain 129 = .ok (.putfield 48, 3) := by decide +kernel
theorem dX8_rain_132 : decode cX8_rain 132 = .ok (.iconst 1, 1) := by decide +kernel
theorem dX8_rain_133 : decode cX8_rain 133 = .ok (.ireturn, 1) := by decide +kernel
theorem dX8_years_0 : decode cX8_years 0 = .ok (.iload_n 1, 1) := by decide +kernel
theorem dX8_years_1 : decode cX8_years 1 = .ok (.iconst 0, 1) := by decide +kernel
theorem dX8_years_2 : decode cX8_years 2 = .ok (.ldc 227, 2) := by decide +kernel
theorem dX8_years_4 : decode cX8_years 4 = .ok (.invokestatic 74, 3) := by decide +kernel
theorem dX8_years_7 : decode cX8_years 7 = .ok (.ifCond .eq 13, 3) := by decide +kernel
theorem dX8_years_10 : decode cX8_years 10 = .ok (.iload_n 2, 1) := by decide +kernel
theorem dX8_years_11 : decode cX8_years 11 = .ok (.iconst 0, 1) := by decide +kernel
theorem dX8_years_12 : decode cX8_years 12 = .ok (.bipush 60, 2) := by decide +kernel
theorem dX8_years_14 : decode cX8_years 14 = .ok (.invokestatic 74, 3) := by decide +kernel
theorem dX8_years_17 : decode cX8_years 17 = .ok (.ifCond .ne 8, 3) := by decide +kernel
theorem dX8_years_20 : decode cX8_years 20 = .ok (.aload_n 0, 1) := by decide +kernel
theorem dX8_years_21 : decode cX8_years 21 = .ok (.invokevirtual 78, 3) := by decide +kernel
theorem dX8_years_24 : decode cX8_years 24 = .ok (.ireturn, 1) := by decide +kernel
theorem dX8_years_25 : decode cX8_years 25 = .ok (.iconst 0, 1) := by decide +kernel
theorem dX8_years_26 : decode cX8_years 26 = .ok (.istore_n 3, 1) := by decide +kernel
theorem dX8_years_27 : decode cX8_years 27 = .ok (.iload_n 3, 1) := by decide +kernel
theorem dX8_years_28 : decode cX8_years 28 = .ok (.bipush 6, 2) := by decide +kernel
theorem dX8_years_30 : decode cX8_years 30 = .ok (.if_icmp .ge 27, 3) := by decide +kernel
theorem dX8_years_33 : decode cX8_years 33 = .ok (.aload_n 0, 1) := by decide +kernel
theorem dX8_years_34 : decode cX8_years 34 = .ok (.getfield 38, 3) := by decide +kernel
theorem dX8_years_37 : decode cX8_years 37 = .ok (.iload_n 3, 1) := by decide +kernel
theorem dX8_years_38 : decode cX8_years 38 = .ok (.aload_n 0, 1) := by decide +kernel
theorem dX8_years_39 : decode cX8_years 39 = .ok (.getfield 10, 3) := by decide +kernel
theorem dX8_years_42 : decode cX8_years 42 = .ok (.getfield 51, 3) := by decide +kernel
theorem dX8_years_45 : decode cX8_years 45 = .ok (.iload_n 3, 1) := by decide +kernel
theorem dX8_years_46 : decode cX8_years 46 = .ok (.iconst 3, 1) := by decide +kernel
theorem dX8_years_47 : decode cX8_years 47 = .ok (.invokevirtual 126, 3) := by decide +kernel
theorem dX8_years_50 : decode cX8_years 50 = .ok (.iastore, 1) := by decide +kernel
theorem dX8_years_51 : decode cX8_years 51 = .ok (.iinc 3 1, 3) := by decide +kernel
theorem dX8_years_54 : decode cX8_years 54 = .ok (.goto (-27), 3) := by decide +kernel
theorem dX8_years_57 : decode cX8_years 57 = .ok (.iload_n 1, 1) := by decide +kernel
theorem dX8_years_58 : decode cX8_years 58 = .ok (.i2l, 1) := by decide +kernel
theorem dX8_years_59 : decode cX8_years 59 = .ok (.lstore_n 3, 1) := by decide +kernel
theorem dX8_years_60 : decode cX8_years 60 = .ok (.iconst 0, 1) := by decide +kernel
theorem dX8_years_61 : decode cX8_years 61 = .ok (.istore 5, 2) := by decide +kernel
theorem dX8_years_63 : decode cX8_years 63 = .ok (.iconst 0, 1) := by decide +kernel
theorem dX8_years_64 : decode cX8_years 64 = .ok (.istore 6, 2) := by decide +kernel
theorem dX8_years_66 : decode cX8_years 66 = .ok (.iload 6, 2) := by decide +kernel
theorem dX8_years_68 : decode cX8_years 68 = .ok (.iload_n 2, 1) := by decide +kernel
theorem dX8_years_69 : decode cX8_years 69 = .ok (.if_icmp .ge 60, 3) := by decide +kernel
theorem dX8_years_72 : decode cX8_years 72 = .ok (.lload_n 3, 1) := by decide +kernel
theorem dX8_years_73 : decode cX8_years 73 = .ok (.ldc2_w 228, 3) := by decide +kernel
theorem dX8_years_76 : decode cX8_years 76 = .ok (.lmul, 1) := by decide +kernel
theorem dX8_years_77 : decode cX8_years 77 = .ok (.ldc2_w 230, 3) := by decide +kernel
theorem dX8_years_80 : decode cX8_years 80 = .ok (.ladd, 1) := by decide +kernel
theorem dX8_years_81 : decode cX8_years 81 = .ok (.ldc2_w 232, 3) := by decide +kernel
theorem dX8_years_84 : decode cX8_years 84 = .ok (.lrem, 1) := by decide +kernel
theorem dX8_years_85 : decode cX8_years 85 = .ok (.lstore_n 3, 1) := by decide +kernel
theorem dX8_years_86 : decode cX8_years 86 = .ok (.lload_n 3, 1) := by decide +kernel
theorem dX8_years_87 : decode cX8_years 87 = .ok (.ldc2_w 234, 3) := by decide +kernel
theorem dX8_years_90 : decode cX8_years 90 = .ok (.ldiv, 1) := by decide +kernel
theorem dX8_years_91 : decode cX8_years 91 = .ok (.ldc2_w 236, 3) := by decide +kernel
theorem dX8_years_94 : decode cX8_years 94 = .ok (.lrem, 1) := by decide +kernel
theorem dX8_years_95 : decode cX8_years 95 = .ok (.l2i, 1) := by decide +kernel
theorem dX8_years_96 : decode cX8_years 96 = .ok (.istore 7, 2) := by decide +kernel
theorem dX8_years_98 : decode cX8_years 98 = .ok (.lload_n 3, 1) := by decide +kernel
theorem dX8_years_99 : decode cX8_years 99 = .ok (.ldc2_w 238, 3) := by decide +kernel
theorem dX8_years_102 : decode cX8_years 102 = .ok (.ldiv, 1) := by decide +kernel
theorem dX8_years_103 : decode cX8_years 103 = .ok (.ldc2_w 240, 3) := by decide +kernel
theorem dX8_years_106 : decode cX8_years 106 = .ok (.lrem, 1) := by decide +kernel
theorem dX8_years_107 : decode cX8_years 107 = .ok (.l2i, 1) := by decide +kernel
theorem dX8_years_108 : decode cX8_years 108 = .ok (.istore 8, 2) := by decide +kernel
theorem dX8_years_110 : decode cX8_years 110 = .ok (.iload 5, 2) := by decide +kernel
theorem dX8_years_112 : decode cX8_years 112 = .ok (.aload_n 0, 1) := by decide +kernel
theorem dX8_years_113 : decode cX8_years 113 = .ok (.iload 7, 2) := by decide +kernel
theorem dX8_years_115 : decode cX8_years 115 = .ok (.iload 8, 2) := by decide +kernel
theorem dX8_years_117 : decode cX8_years 117 = .ok (.invokevirtual 242, 3) := by decide +kernel
theorem dX8_years_120 : decode cX8_years 120 = .ok (.iadd, 1) := by decide +kernel
theorem dX8_years_121 : decode cX8_years 121 = .ok (.istore 5, 2) := by decide +kernel
theorem dX8_years_123 : decode cX8_years 123 = .ok (.iinc 6 1, 3) := by decide +kernel
theorem dX8_years_126 : decode cX8_years 126 = .ok (.goto (-60), 3) := by decide +kernel
theorem dX8_years_129 : decode cX8_years 129 = .ok (.iload 5, 2) := by decide +kernel
theorem dX8_years_131 : decode cX8_years 131 = .ok (.ireturn, 1) := by decide +kernel
theorem dX8_part_0 : decode cX8_part 0 = .ok (.iload_n 1, 1) := by decide +kernel
theorem dX8_part_1 : decode cX8_part 1 = .ok (.iconst 2, 1) := by decide +kernel
theorem dX8_part_2 : decode cX8_part 2 = .ok (.invokestatic 64, 3) := by decide +kernel
theorem dX8_part_5 : decode cX8_part 5 = .ok (.ifCond .ne 9, 3) := by decide +kernel
theorem dX8_part_8 : decode cX8_part 8 = .ok (.aload_n 0, 1) := by decide +kernel
theorem dX8_part_9 : decode cX8_part 9 = .ok (.invokevirtual 78, 3) := by decide +kernel
theorem dX8_part_12 : decode cX8_part 12 = .ok (.i2l, 1) := by decide +kernel
theorem dX8_part_13 : decode cX8_part 13 = .ok (.lreturn, 1) := by decide +kernel
theorem dX8_part_14 : decode cX8_part 14 = .ok (.iload_n 1, 1) := by decide +kernel
theorem dX8_part_15 : decode cX8_part 15 = .ok (.ifCond .ne 10, 3) := by decide +kernel
theorem dX8_part_18 : decode cX8_part 18 = .ok (.aload_n 0, 1) := by decide +kernel
theorem dX8_part_19 : decode cX8_part 19 = .ok (.getfield 44, 3) := by decide +kernel
theorem dX8_part_22 : decode cX8_part 22 = .ok (.goto 7, 3) := by decide +kernel
theorem dX8_part_25 : decode cX8_part 25 = .ok (.aload_n 0, 1) := by decide +kernel
theorem dX8_part_26 : decode cX8_part 26 = .ok (.getfield 48, 3) := by decide +kernel
theorem dX8_part_29 : decode cX8_part 29 = .ok (.lreturn, 1) := by decide +kernel
theorem dX8_image_0 : decode cX8_image 0 = .ok (.iload_n 1, 1) := by decide +kernel
theorem dX8_image_1 : decode cX8_image 1 = .ok (.iconst 2, 1) := by decide +kernel
theorem dX8_image_2 : decode cX8_image 2 = .ok (.invokestatic 64, 3) := by decide +kernel
theorem dX8_image_5 : decode cX8_image 5 = .ok (.ifCond .ne 8, 3) := by decide +kernel
theorem dX8_image_8 : decode cX8_image 8 = .ok (.aload_n 0, 1) := by decide +kernel
theorem dX8_image_9 : decode cX8_image 9 = .ok (.invokevirtual 78, 3) := by decide +kernel
theorem dX8_image_12 : decode cX8_image 12 = .ok (.ireturn, 1) := by decide +kernel
theorem dX8_image_13 : decode cX8_image 13 = .ok (.aload_n 0, 1) := by decide +kernel
theorem dX8_image_14 : decode cX8_image 14 = .ok (.getfield 16, 3) := by decide +kernel
theorem dX8_image_17 : decode cX8_image 17 = .ok (.iload_n 1, 1) := by decide +kernel
theorem dX8_image_18 : decode cX8_image 18 = .ok (.aaload, 1) := by decide +kernel
theorem dX8_image_19 : decode cX8_image 19 = .ok (.astore_n 2, 1) := by decide +kernel
theorem dX8_image_20 : decode cX8_image 20 = .ok (.aload_n 2, 1) := by decide +kernel
theorem dX8_image_21 : decode cX8_image 21 = .ok (.ifnonnull 18, 3) := by decide +kernel
theorem dX8_image_24 : decode cX8_image 24 = .ok (.new 7, 3) := by decide +kernel
theorem dX8_image_27 : decode cX8_image 27 = .ok (.dup, 1) := by decide +kernel
theorem dX8_image_28 : decode cX8_image 28 = .ok (.invokespecial 9, 3) := by decide +kernel
theorem dX8_image_31 : decode cX8_image 31 = .ok (.astore_n 2, 1) := by decide +kernel
theorem dX8_image_32 : decode cX8_image 32 = .ok (.aload_n 0, 1) := by decide +kernel
theorem dX8_image_33 : decode cX8_image 33 = .ok (.getfield 16, 3) := by decide +kernel
theorem dX8_image_36 : decode cX8_image 36 = .ok (.iload_n 1, 1) := by decide +kernel
theorem dX8_image_37 : decode cX8_image 37 = .ok (.aload_n 2, 1) := by decide +kernel
theorem dX8_image_38 : decode cX8_image 38 = .ok (.aastore, 1) := by decide +kernel
theorem dX8_image_39 : decode cX8_image 39 = .ok (.aload_n 2, 1) := by decide +kernel
theorem dX8_image_40 : decode cX8_image 40 = .ok (.aload_n 0, 1) := by decide +kernel
theorem dX8_image_41 : decode cX8_image 41 = .ok (.getfield 10, 3) := by decide +kernel
theorem dX8_image_44 : decode cX8_image 44 = .ok (.invokevirtual 245, 3) := by decide +kernel
theorem dX8_image_47 : decode cX8_image 47 = .ok (.iconst 1, 1) := by decide +kernel
theorem dX8_image_48 : decode cX8_image 48 = .ok (.ireturn, 1) := by decide +kernel
theorem dX8_from_0 : decode cX8_from 0 = .ok (.iload_n 1, 1) := by decide +kernel
theorem dX8_from_1 : decode cX8_from 1 = .ok (.iconst 2, 1) := by decide +kernel
theorem dX8_from_2 : decode cX8_from 2 = .ok (.invokestatic 64, 3) := by decide +kernel
theorem dX8_from_5 : decode cX8_from 5 = .ok (.ifCond .ne 8, 3) := by decide +kernel
theorem dX8_from_8 : decode cX8_from 8 = .ok (.aload_n 0, 1) := by decide +kernel
theorem dX8_from_9 : decode cX8_from 9 = .ok (.invokevirtual 78, 3) := by decide +kernel
theorem dX8_from_12 : decode cX8_from 12 = .ok (.ireturn, 1) := by decide +kernel
theorem dX8_from_13 : decode cX8_from 13 = .ok (.aload_n 0, 1) := by decide +kernel
theorem dX8_from_14 : decode cX8_from 14 = .ok (.getfield 16, 3) := by decide +kernel
theorem dX8_from_17 : decode cX8_from 17 = .ok (.iload_n 1, 1) := by decide +kernel
theorem dX8_from_18 : decode cX8_from 18 = .ok (.aaload, 1) := by decide +kernel
theorem dX8_from_19 : decode cX8_from 19 = .ok (.astore_n 2, 1) := by decide +kernel
theorem dX8_from_20 : decode cX8_from 20 = .ok (.aload_n 2, 1) := by decide +kernel
theorem dX8_from_21 : decode cX8_from 21 = .ok (.ifnonnull 8, 3) := by decide +kernel
theorem dX8_from_24 : decode cX8_from 24 = .ok (.aload_n 0, 1) := by decide +kernel
theorem dX8_from_25 : decode cX8_from 25 = .ok (.invokevirtual 130, 3) := by decide +kernel
theorem dX8_from_28 : decode cX8_from 28 = .ok (.ireturn, 1) := by decide +kernel
theorem dX8_from_29 : decode cX8_from 29 = .ok (.aload_n 0, 1) := by decide +kernel
theorem dX8_from_30 : decode cX8_from 30 = .ok (.getfield 10, 3) := by decide +kernel
theorem dX8_from_33 : decode cX8_from 33 = .ok (.aload_n 2, 1) := by decide +kernel
theorem dX8_from_34 : decode cX8_from 34 = .ok (.invokevirtual 245, 3) := by decide +kernel
theorem dX8_from_37 : decode cX8_from 37 = .ok (.iconst 1, 1) := by decide +kernel
theorem dX8_from_38 : decode cX8_from 38 = .ok (.ireturn, 1) := by decide +kernel
theorem dX8_status_0 : decode cX8_status 0 = .ok (.iload_n 1, 1) := by decide +kernel
theorem dX8_status_1 : decode cX8_status 1 = .ok (.iconst 3, 1) := by decide +kernel
theorem dX8_status_2 : decode cX8_status 2 = .ok (.invokestatic 64, 3) := by decide +kernel
theorem dX8_status_5 : decode cX8_status 5 = .ok (.ifCond .ne 10, 3) := by decide +kernel
theorem dX8_status_8 : decode cX8_status 8 = .ok (.aload_n 0, 1) := by decide +kernel
theorem dX8_status_9 : decode cX8_status 9 = .ok (.invokevirtual 78, 3) := by decide +kernel
theorem dX8_status_12 : decode cX8_status 12 = .ok (.pop, 1) := by decide +kernel
theorem dX8_status_13 : decode cX8_status 13 = .ok (.iconst (-1), 1) := by decide +kernel
theorem dX8_status_14 : decode cX8_status 14 = .ok (.ireturn, 1) := by decide +kernel
theorem dX8_status_15 : decode cX8_status 15 = .ok (.aload_n 0, 1) := by decide +kernel
theorem dX8_status_16 : decode cX8_status 16 = .ok (.getfield 34, 3) := by decide +kernel
theorem dX8_status_19 : decode cX8_status 19 = .ok (.iload_n 1, 1) := by decide +kernel
theorem dX8_status_20 : decode cX8_status 20 = .ok (.iaload, 1) := by decide +kernel
theorem dX8_status_21 : decode cX8_status 21 = .ok (.ireturn, 1) := by decide +kernel
theorem dX8_count_0 : decode cX8_count 0 = .ok (.iload_n 1, 1) := by decide +kernel
theorem dX8_count_1 : decode cX8_count 1 = .ok (.bipush 6, 2) := by decide +kernel
theorem dX8_count_3 : decode cX8_count 3 = .ok (.invokestatic 64, 3) := by decide +kernel
theorem dX8_count_6 : decode cX8_count 6 = .ok (.ifCond .eq 11, 3) := by decide +kernel
theorem dX8_count_9 : decode cX8_count 9 = .ok (.aload_n 0, 1) := by decide +kernel
theorem dX8_count_10 : decode cX8_count 10 = .ok (.iload_n 1, 1) := by decide +kernel
theorem dX8_count_11 : decode cX8_count 11 = .ok (.invokevirtual 248, 3) := by decide +kernel
theorem dX8_count_14 : decode cX8_count 14 = .ok (.goto 7, 3) := by decide +kernel
theorem dX8_count_17 : decode cX8_count 17 = .ok (.aload_n 0, 1) := by decide +kernel
theorem dX8_count_18 : decode cX8_count 18 = .ok (.invokevirtual 78, 3) := by decide +kernel
theorem dX8_count_21 : decode cX8_count 21 = .ok (.ireturn, 1) := by decide +kernel
theorem dX8_digest_0 : decode cX8_digest 0 = .ok (.ldc2_w 251, 3) := by decide +kernel
theorem dX8_digest_3 : decode cX8_digest 3 = .ok (.lstore_n 1, 1) := by decide +kernel
theorem dX8_digest_4 : decode cX8_digest 4 = .ok (.iconst 0, 1) := by decide +kernel
theorem dX8_digest_5 : decode cX8_digest 5 = .ok (.istore_n 3, 1) := by decide +kernel
theorem dX8_digest_6 : decode cX8_digest 6 = .ok (.iload_n 3, 1) := by decide +kernel
theorem dX8_digest_7 : decode cX8_digest 7 = .ok (.bipush 6, 2) := by decide +kernel
theorem dX8_digest_9 : decode cX8_digest 9 = .ok (.if_icmp .ge 22, 3) := by decide +kernel
theorem dX8_digest_12 : decode cX8_digest 12 = .ok (.ldc2_w 253, 3) := by decide +kernel
theorem dX8_digest_15 : decode cX8_digest 15 = .ok (.lload_n 1, 1) := by decide +kernel
theorem dX8_digest_16 : decode cX8_digest 16 = .ok (.lmul, 1) := by decide +kernel
theorem dX8_digest_17 : decode cX8_digest 17 = .ok (.aload_n 0, 1) := by decide +kernel
theorem dX8_digest_18 : decode cX8_digest 18 = .ok (.iload_n 3, 1) := by decide +kernel
theorem dX8_digest_19 : decode cX8_digest 19 = .ok (.invokevirtual 248, 3) := by decide +kernel
theorem dX8_digest_22 : decode cX8_digest 22 = .ok (.i2l, 1) := by decide +kernel
theorem dX8_digest_23 : decode cX8_digest 23 = .ok (.ladd, 1) := by decide +kernel
theorem dX8_digest_24 : decode cX8_digest 24 = .ok (.lstore_n 1, 1) := by decide +kernel
theorem dX8_digest_25 : decode cX8_digest 25 = .ok (.iinc 3 1, 3) := by decide +kernel
theorem dX8_digest_28 : decode cX8_digest 28 = .ok (.goto (-22), 3) := by decide +kernel
theorem dX8_digest_31 : decode cX8_digest 31 = .ok (.iconst 0, 1) := by decide +kernel
theorem dX8_digest_32 : decode cX8_digest 32 = .ok (.istore_n 3, 1) := by decide +kernel
theorem dX8_digest_33 : decode cX8_digest 33 = .ok (.iload_n 3, 1) := by decide +kernel
theorem dX8_digest_34 : decode cX8_digest 34 = .ok (.aload_n 0, 1) := by decide +kernel
theorem dX8_digest_35 : decode cX8_digest 35 = .ok (.getfield 10, 3) := by decide +kernel
theorem dX8_digest_38 : decode cX8_digest 38 = .ok (.getfield 51, 3) := by decide +kernel
theorem dX8_digest_41 : decode cX8_digest 41 = .ok (.invokevirtual 55, 3) := by decide +kernel
theorem dX8_digest_44 : decode cX8_digest 44 = .ok (.if_icmp .ge 45, 3) := by decide +kernel
theorem dX8_digest_47 : decode cX8_digest 47 = .ok (.iconst 0, 1) := by decide +kernel
theorem dX8_digest_48 : decode cX8_digest 48 = .ok (.istore 4, 2) := by decide +kernel
theorem dX8_digest_50 : decode cX8_digest 50 = .ok (.iload 4, 2) := by decide +kernel
theorem dX8_digest_52 : decode cX8_digest 52 = .ok (.iconst 4, 1) := by decide +kernel
theorem dX8_digest_53 : decode cX8_digest 53 = .ok (.if_icmp .ge 30, 3) := by decide +kernel
theorem dX8_digest_56 : decode cX8_digest 56 = .ok (.ldc2_w 253, 3) := by decide +kernel
theorem dX8_digest_59 : decode cX8_digest 59 = .ok (.lload_n 1, 1) := by decide +kernel
theorem dX8_digest_60 : decode cX8_digest 60 = .ok (.lmul, 1) := by decide +kernel
theorem dX8_digest_61 : decode cX8_digest 61 = .ok (.aload_n 0, 1) := by decide +kernel
theorem dX8_digest_62 : decode cX8_digest 62 = .ok (.getfield 10, 3) := by decide +kernel
theorem dX8_digest_65 : decode cX8_digest 65 = .ok (.getfield 51, 3) := by decide +kernel
theorem dX8_digest_68 : decode cX8_digest 68 = .ok (.iload_n 3, 1) := by decide +kernel
theorem dX8_digest_69 : decode cX8_digest 69 = .ok (.iload 4, 2) := by decide +kernel
theorem dX8_digest_71 : decode cX8_digest 71 = .ok (.invokevirtual 126, 3) := by decide +kernel
theorem dX8_digest_74 : decode cX8_digest 74 = .ok (.i2l, 1) := by decide +kernel
theorem dX8_digest_75 : decode cX8_digest 75 = .ok (.ladd, 1) := by decide +kernel
theorem dX8_digest_76 : decode cX8_digest 76 = .ok (.lstore_n 1, 1) := by decide +kernel
theorem dX8_digest_77 : decode cX8_digest 77 = .ok (.iinc 4 1, 3) := by decide +kernel
theorem dX8_digest_80 : decode cX8_digest 80 = .ok (.goto (-30), 3) := by decide +kernel
theorem dX8_digest_83 : decode cX8_digest 83 = .ok (.iinc 3 1, 3) := by decide +kernel
theorem dX8_digest_86 : decode cX8_digest 86 = .ok (.goto (-53), 3) := by decide +kernel
theorem dX8_digest_89 : decode cX8_digest 89 = .ok (.iconst 0, 1) := by decide +kernel
theorem dX8_digest_90 : decode cX8_digest 90 = .ok (.istore_n 3, 1) := by decide +kernel
theorem dX8_digest_91 : decode cX8_digest 91 = .ok (.iload_n 3, 1) := by decide +kernel
theorem dX8_digest_92 : decode cX8_digest 92 = .ok (.aload_n 0, 1) := by decide +kernel
theorem dX8_digest_93 : decode cX8_digest 93 = .ok (.getfield 10, 3) := by decide +kernel
theorem dX8_digest_96 : decode cX8_digest 96 = .ok (.getfield 143, 3) := by decide +kernel
theorem dX8_digest_99 : decode cX8_digest 99 = .ok (.invokevirtual 201, 3) := by decide +kernel
theorem dX8_digest_102 : decode cX8_digest 102 = .ok (.if_icmp .ge 45, 3) := by decide +kernel
theorem dX8_digest_105 : decode cX8_digest 105 = .ok (.iconst 0, 1) := by decide +kernel
theorem dX8_digest_106 : decode cX8_digest 106 = .ok (.istore 4, 2) := by decide +kernel
theorem dX8_digest_108 : decode cX8_digest 108 = .ok (.iload 4, 2) := by decide +kernel
theorem dX8_digest_110 : decode cX8_digest 110 = .ok (.iconst 4, 1) := by decide +kernel
theorem dX8_digest_111 : decode cX8_digest 111 = .ok (.if_icmp .ge 30, 3) := by decide +kernel
theorem dX8_digest_114 : decode cX8_digest 114 = .ok (.ldc2_w 253, 3) := by decide +kernel
theorem dX8_digest_117 : decode cX8_digest 117 = .ok (.lload_n 1, 1) := by decide +kernel
theorem dX8_digest_118 : decode cX8_digest 118 = .ok (.lmul, 1) := by decide +kernel
theorem dX8_digest_119 : decode cX8_digest 119 = .ok (.aload_n 0, 1) := by decide +kernel
theorem dX8_digest_120 : decode cX8_digest 120 = .ok (.getfield 10, 3) := by decide +kernel
theorem dX8_digest_123 : decode cX8_digest 123 = .ok (.getfield 143, 3) := by decide +kernel
theorem dX8_digest_126 : decode cX8_digest 126 = .ok (.iload_n 3, 1) := by decide +kernel
theorem dX8_digest_127 : decode cX8_digest 127 = .ok (.iload 4, 2) := by decide +kernel
theorem dX8_digest_129 : decode cX8_digest 129 = .ok (.invokevirtual 255, 3) := by decide +kernel
theorem dX8_digest_132 : decode cX8_digest 132 = .ok (.i2l, 1) := by decide +kernel
theorem dX8_digest_133 : decode cX8_digest 133 = .ok (.ladd, 1) := by decide +kernel
theorem dX8_digest_134 : decode cX8_digest 134 = .ok (.lstore_n 1, 1) := by decide +kernel
theorem dX8_digest_135 : decode cX8_digest 135 = .ok (.iinc 4 1, 3) := by decide +kernel
theorem dX8_digest_138 : decode cX8_digest 138 = .ok (.goto (-30), 3) := by decide +kernel
theorem dX8_digest_141 : decode cX8_digest 141 = .ok (.iinc 3 1, 3) := by decide +kernel
theorem dX8_digest_144 : decode cX8_digest 144 = .ok (.goto (-53), 3) := by decide +kernel
theorem dX8_digest_147 : decode cX8_digest 147 = .ok (.ldc2_w 253, 3) := by decide +kernel
theorem dX8_digest_150 : decode cX8_digest 150 = .ok (.lload_n 1, 1) := by decide +kernel
theorem dX8_digest_151 : decode cX8_digest 151 = .ok (.lmul, 1) := by decide +kernel
theorem dX8_digest_152 : decode cX8_digest 152 = .ok (.aload_n 0, 1) := by decide +kernel
theorem dX8_digest_153 : decode cX8_digest 153 = .ok (.getfield 44, 3) := by decide +kernel
theorem dX8_digest_156 : decode cX8_digest 156 = .ok (.ladd, 1) := by decide +kernel
theorem dX8_digest_157 : decode cX8_digest 157 = .ok (.lstore_n 1, 1) := by decide +kernel
theorem dX8_digest_158 : decode cX8_digest 158 = .ok (.ldc2_w 253, 3) := by decide +kernel
theorem dX8_digest_161 : decode cX8_digest 161 = .ok (.lload_n 1, 1) := by decide +kernel
theorem dX8_digest_162 : decode cX8_digest 162 = .ok (.lmul, 1) := by decide +kernel
theorem dX8_digest_163 : decode cX8_digest 163 = .ok (.aload_n 0, 1) := by decide +kernel
theorem dX8_digest_164 : decode cX8_digest 164 = .ok (.getfield 48, 3) := by decide +kernel
theorem dX8_digest_167 : decode cX8_digest 167 = .ok (.ladd, 1) := by decide +kernel
theorem dX8_digest_168 : decode cX8_digest 168 = .ok (.lreturn, 1) := by decide +kernel
theorem dX8_isWithin_0 : decode cX8_isWithin 0 = .ok (.iload_n 0, 1) := by decide +kernel
theorem dX8_isWithin_1 : decode cX8_isWithin 1 = .ok (.iload_n 1, 1) := by decide +kernel
theorem dX8_isWithin_2 : decode cX8_isWithin 2 = .ok (.if_icmp .lt 12, 3) := by decide +kernel
theorem dX8_isWithin_5 : decode cX8_isWithin 5 = .ok (.iload_n 0, 1) := by decide +kernel
theorem dX8_isWithin_6 : decode cX8_isWithin 6 = .ok (.iload_n 2, 1) := by decide +kernel
theorem dX8_isWithin_7 : decode cX8_isWithin 7 = .ok (.if_icmp .gt 7, 3) := by decide +kernel
theorem dX8_isWithin_10 : decode cX8_isWithin 10 = .ok (.iconst 1, 1) := by decide +kernel
theorem dX8_isWithin_11 : decode cX8_isWithin 11 = .ok (.goto 4, 3) := by decide +kernel
theorem dX8_isWithin_14 : decode cX8_isWithin 14 = .ok (.iconst 0, 1) := by decide +kernel
theorem dX8_isWithin_15 : decode cX8_isWithin 15 = .ok (.ireturn, 1) := by decide +kernel
theorem dX8_isBelow_0 : decode cX8_isBelow 0 = .ok (.iload_n 0, 1) := by decide +kernel
theorem dX8_isBelow_1 : decode cX8_isBelow 1 = .ok (.ifCond .lt 12, 3) := by decide +kernel
theorem dX8_isBelow_4 : decode cX8_isBelow 4 = .ok (.iload_n 0, 1) := by decide +kernel
theorem dX8_isBelow_5 : decode cX8_isBelow 5 = .ok (.iload_n 1, 1) := by decide +kernel
theorem dX8_isBelow_6 : decode cX8_isBelow 6 = .ok (.if_icmp .ge 7, 3) := by decide +kernel
theorem dX8_isBelow_9 : decode cX8_isBelow 9 = .ok (.iconst 1, 1) := by decide +kernel
theorem dX8_isBelow_10 : decode cX8_isBelow 10 = .ok (.goto 4, 3) := by decide +kernel
theorem dX8_isBelow_13 : decode cX8_isBelow 13 = .ok (.iconst 0, 1) := by decide +kernel
theorem dX8_isBelow_14 : decode cX8_isBelow 14 = .ok (.ireturn, 1) := by decide +kernel
theorem dX8_refuseBad_0 : decode cX8_refuseBad 0 = .ok (.aload_n 0, 1) := by decide +kernel
theorem dX8_refuseBad_1 : decode cX8_refuseBad 1 = .ok (.getfield 34, 3) := by decide +kernel
theorem dX8_refuseBad_4 : decode cX8_refuseBad 4 = .ok (.iconst 0, 1) := by decide +kernel
theorem dX8_refuseBad_5 : decode cX8_refuseBad 5 = .ok (.dup2, 1) := by decide +kernel
theorem dX8_refuseBad_6 : decode cX8_refuseBad 6 = .ok (.iaload, 1) := by decide +kernel
theorem dX8_refuseBad_7 : decode cX8_refuseBad 7 = .ok (.iconst 1, 1) := by decide +kernel
theorem dX8_refuseBad_8 : decode cX8_refuseBad 8 = .ok (.iadd, 1) := by decide +kernel
theorem dX8_refuseBad_9 : decode cX8_refuseBad 9 = .ok (.iastore, 1) := by decide +kernel
theorem dX8_refuseBad_10 : decode cX8_refuseBad 10 = .ok (.bipush (-2), 2) := by decide +kernel
theorem dX8_refuseBad_12 : decode cX8_refuseBad 12 = .ok (.ireturn, 1) := by decide +kernel
theorem dX8_refuseNo_0 : decode cX8_refuseNo 0 = .ok (.aload_n 0, 1) := by decide +kernel
theorem dX8_refuseNo_1 : decode cX8_refuseNo 1 = .ok (.getfield 34, 3) := by decide +kernel
theorem dX8_refuseNo_4 : decode cX8_refuseNo 4 = .ok (.iconst 1, 1) := by decide +kernel
theorem dX8_refuseNo_5 : decode cX8_refuseNo 5 = .ok (.dup2, 1) := by decide +kernel
theorem dX8_refuseNo_6 : decode cX8_refuseNo 6 = .ok (.iaload, 1) := by decide +kernel
theorem dX8_refuseNo_7 : decode cX8_refuseNo 7 = .ok (.iconst 1, 1) := by decide +kernel
theorem dX8_refuseNo_8 : decode cX8_refuseNo 8 = .ok (.iadd, 1) := by decide +kernel
theorem dX8_refuseNo_9 : decode cX8_refuseNo 9 = .ok (.iastore, 1) := by decide +kernel
theorem dX8_refuseNo_10 : decode cX8_refuseNo 10 = .ok (.bipush (-3), 2) := by decide +kernel
theorem dX8_refuseNo_12 : decode cX8_refuseNo 12 = .ok (.ireturn, 1) := by decide +kernel
theorem dX8_refuseFull_0 : decode cX8_refuseFull 0 = .ok (.aload_n 0, 1) := by decide +kernel
theorem dX8_refuseFull_1 : decode cX8_refuseFull 1 = .ok (.getfield 34, 3) := by decide +kernel
theorem dX8_refuseFull_4 : decode cX8_refuseFull 4 = .ok (.iconst 2, 1) := by decide +kernel
theorem dX8_refuseFull_5 : decode cX8_refuseFull 5 = .ok (.dup2, 1) := by decide +kernel
theorem dX8_refuseFull_6 : decode cX8_refuseFull 6 = .ok (.iaload, 1) := by decide +kernel
theorem dX8_refuseFull_7 : decode cX8_refuseFull 7 = .ok (.iconst 1, 1) := by decide +kernel
theorem dX8_refuseFull_8 : decode cX8_refuseFull 8 = .ok (.iadd, 1) := by decide +kernel
theorem dX8_refuseFull_9 : decode cX8_refuseFull 9 = .ok (.iastore, 1) := by decide +kernel
theorem dX8_refuseFull_10 : decode cX8_refuseFull 10 = .ok (.bipush (-4), 2) := by decide +kernel
theorem dX8_refuseFull_12 : decode cX8_refuseFull 12 = .ok (.ireturn, 1) := by decide +kernel
theorem dX8_areTwo_0 : decode cX8_areTwo 0 = .ok (.aload_n 0, 1) := by decide +kernel
theorem dX8_areTwo_1 : decode cX8_areTwo 1 = .ok (.getfield 10, 3) := by decide +kernel
theorem dX8_areTwo_4 : decode cX8_areTwo 4 = .ok (.getfield 51, 3) := by decide +kernel
theorem dX8_areTwo_7 : decode cX8_areTwo 7 = .ok (.iload_n 1, 1) := by decide +kernel
theorem dX8_areTwo_8 : decode cX8_areTwo 8 = .ok (.invokevirtual 115, 3) := by decide +kernel
theorem dX8_areTwo_11 : decode cX8_areTwo 11 = .ok (.ifCond .eq 26, 3) := by decide +kernel
theorem dX8_areTwo_14 : decode cX8_areTwo 14 = .ok (.aload_n 0, 1) := by decide +kernel
theorem dX8_areTwo_15 : decode cX8_areTwo 15 = .ok (.getfield 10, 3) := by decide +kernel
theorem dX8_areTwo_18 : decode cX8_areTwo 18 = .ok (.getfield 51, 3) := by decide +kernel
theorem dX8_areTwo_21 : decode cX8_areTwo 21 = .ok (.iload_n 2, 1) := by decide +kernel
theorem dX8_areTwo_22 : decode cX8_areTwo 22 = .ok (.invokevirtual 115, 3) := by decide +kernel
theorem dX8_areTwo_25 : decode cX8_areTwo 25 = .ok (.ifCond .eq 12, 3) := by decide +kernel
theorem dX8_areTwo_28 : decode cX8_areTwo 28 = .ok (.iload_n 1, 1) := by decide +kernel
theorem dX8_areTwo_29 : decode cX8_areTwo 29 = .ok (.iload_n 2, 1) := by decide +kernel
theorem dX8_areTwo_30 : decode cX8_areTwo 30 = .ok (.if_icmp .eq 7, 3) := by decide +kernel
theorem dX8_areTwo_33 : decode cX8_areTwo 33 = .ok (.iconst 1, 1) := by decide +kernel
theorem dX8_areTwo_34 : decode cX8_areTwo 34 = .ok (.goto 4, 3) := by decide +kernel
theorem dX8_areTwo_37 : decode cX8_areTwo 37 = .ok (.iconst 0, 1) := by decide +kernel
theorem dX8_areTwo_38 : decode cX8_areTwo 38 = .ok (.ireturn, 1) := by decide +kernel
theorem dX8_amount_0 : decode cX8_amount 0 = .ok (.iload_n 1, 1) := by decide +kernel
theorem dX8_amount_1 : decode cX8_amount 1 = .ok (.tableswitch 92 0 4 #[35, 46, 58, 70, 81], 35) := by decide +kernel
theorem dX8_amount_36 : decode cX8_amount 36 = .ok (.aload_n 0, 1) := by decide +kernel
theorem dX8_amount_37 : decode cX8_amount 37 = .ok (.getfield 10, 3) := by decide +kernel
theorem dX8_amount_40 : decode cX8_amount 40 = .ok (.getfield 51, 3) := by decide +kernel
theorem dX8_amount_43 : decode cX8_amount 43 = .ok (.invokevirtual 55, 3) := by decide +kernel
theorem dX8_amount_46 : decode cX8_amount 46 = .ok (.ireturn, 1) := by decide +kernel
theorem dX8_amount_47 : decode cX8_amount 47 = .ok (.aload_n 0, 1) := by decide +kernel
theorem dX8_amount_48 : decode cX8_amount 48 = .ok (.getfield 10, 3) := by decide +kernel
theorem dX8_amount_51 : decode cX8_amount 51 = .ok (.getfield 51, 3) := by decide +kernel
theorem dX8_amount_54 : decode cX8_amount 54 = .ok (.iconst 2, 1) := by decide +kernel
theorem dX8_amount_55 : decode cX8_amount 55 = .ok (.invokevirtual 256, 3) := by decide +kernel
theorem dX8_amount_58 : decode cX8_amount 58 = .ok (.ireturn, 1) := by decide +kernel
theorem dX8_amount_59 : decode cX8_amount 59 = .ok (.aload_n 0, 1) := by decide +kernel
theorem dX8_amount_60 : decode cX8_amount 60 = .ok (.getfield 10, 3) := by decide +kernel
theorem dX8_amount_63 : decode cX8_amount 63 = .ok (.getfield 51, 3) := by decide +kernel
theorem dX8_amount_66 : decode cX8_amount 66 = .ok (.iconst 3, 1) := by decide +kernel
theorem dX8_amount_67 : decode cX8_amount 67 = .ok (.invokevirtual 256, 3) := by decide +kernel
theorem dX8_amount_70 : decode cX8_amount 70 = .ok (.ireturn, 1) := by decide +kernel
theorem dX8_amount_71 : decode cX8_amount 71 = .ok (.aload_n 0, 1) := by decide +kernel
theorem dX8_amount_72 : decode cX8_amount 72 = .ok (.getfield 10, 3) := by decide +kernel
theorem dX8_amount_75 : decode cX8_amount 75 = .ok (.getfield 143, 3) := by decide +kernel
theorem dX8_amount_78 : decode cX8_amount 78 = .ok (.invokevirtual 201, 3) := by decide +kernel
theorem dX8_amount_81 : decode cX8_amount 81 = .ok (.ireturn, 1) := by decide +kernel
theorem dX8_amount_82 : decode cX8_amount 82 = .ok (.aload_n 0, 1) := by decide +kernel
theorem dX8_amount_83 : decode cX8_amount 83 = .ok (.getfield 10, 3) := by decide +kernel
theorem dX8_amount_86 : decode cX8_amount 86 = .ok (.getfield 88, 3) := by decide +kernel
theorem dX8_amount_89 : decode cX8_amount 89 = .ok (.invokevirtual 161, 3) := by decide +kernel
theorem dX8_amount_92 : decode cX8_amount 92 = .ok (.ireturn, 1) := by decide +kernel
theorem dX8_amount_93 : decode cX8_amount 93 = .ok (.aload_n 0, 1) := by decide +kernel
theorem dX8_amount_94 : decode cX8_amount 94 = .ok (.getfield 23, 3) := by decide +kernel
theorem dX8_amount_97 : decode cX8_amount 97 = .ok (.invokevirtual 99, 3) := by decide +kernel
theorem dX8_amount_100 : decode cX8_amount 100 = .ok (.ireturn, 1) := by decide +kernel
theorem dX8_fewestBreaks_0 : decode cX8_fewestBreaks 0 = .ok (.iconst 0, 1) := by decide +kernel
theorem dX8_fewestBreaks_1 : decode cX8_fewestBreaks 1 = .ok (.istore_n 2, 1) := by decide +kernel
theorem dX8_fewestBreaks_2 : decode cX8_fewestBreaks 2 = .ok (.iload_n 2, 1) := by decide +kernel
theorem dX8_fewestBreaks_3 : decode cX8_fewestBreaks 3 = .ok (.bipush 6, 2) := by decide +kernel
theorem dX8_fewestBreaks_5 : decode cX8_fewestBreaks 5 = .ok (.if_icmp .ge 21, 3) := by decide +kernel
theorem dX8_fewestBreaks_8 : decode cX8_fewestBreaks 8 = .ok (.aload_n 0, 1) := by decide +kernel
theorem dX8_fewestBreaks_9 : decode cX8_fewestBreaks 9 = .ok (.getfield 41, 3) := by decide +kernel
theorem dX8_fewestBreaks_12 : decode cX8_fewestBreaks 12 = .ok (.iload_n 2, 1) := by decide +kernel
theorem dX8_fewestBreaks_13 : decode cX8_fewestBreaks 13 = .ok (.aload_n 0, 1) := by decide +kernel
theorem dX8_fewestBreaks_14 : decode cX8_fewestBreaks 14 = .ok (.iload_n 1, 1) := by decide +kernel
theorem dX8_fewestBreaks_15 : decode cX8_fewestBreaks 15 = .ok (.iload_n 2, 1) := by decide +kernel
theorem dX8_fewestBreaks_16 : decode cX8_fewestBreaks 16 = .ok (.invokevirtual 259, 3) := by decide +kernel
theorem dX8_fewestBreaks_19 : decode cX8_fewestBreaks 19 = .ok (.iastore, 1) := by decide +kernel
theorem dX8_fewestBreaks_20 : decode cX8_fewestBreaks 20 = .ok (.iinc 2 1, 3) := by decide +kernel
theorem dX8_fewestBreaks_23 : decode cX8_fewestBreaks 23 = .ok (.goto (-21), 3) := by decide +kernel
theorem dX8_fewestBreaks_26 : decode cX8_fewestBreaks 26 = .ok (.aload_n 0, 1) := by decide +kernel
theorem dX8_fewestBreaks_27 : decode cX8_fewestBreaks 27 = .ok (.getfield 10, 3) := by decide +kernel
theorem dX8_fewestBreaks_30 : decode cX8_fewestBreaks 30 = .ok (.getfield 51, 3) := by decide +kernel
theorem dX8_fewestBreaks_33 : decode cX8_fewestBreaks 33 = .ok (.iload_n 1, 1) := by decide +kernel
theorem dX8_fewestBreaks_34 : decode cX8_fewestBreaks 34 = .ok (.iconst 0, 1) := by decide +kernel
theorem dX8_fewestBreaks_35 : decode cX8_fewestBreaks 35 = .ok (.invokevirtual 126, 3) := by decide +kernel
theorem dX8_fewestBreaks_38 : decode cX8_fewestBreaks 38 = .ok (.istore_n 2, 1) := by decide +kernel
theorem dX8_fewestBreaks_39 : decode cX8_fewestBreaks 39 = .ok (.iconst (-1), 1) := by decide +kernel
theorem dX8_fewestBreaks_40 : decode cX8_fewestBreaks 40 = .ok (.istore_n 3, 1) := by decide +kernel
theorem dX8_fewestBreaks_41 : decode cX8_fewestBreaks 41 = .ok (.bipush 10, 2) := by decide +kernel
theorem dX8_fewestBreaks_43 : decode cX8_fewestBreaks 43 = .ok (.istore 4, 2) := by decide +kernel
theorem dX8_fewestBreaks_45 : decode cX8_fewestBreaks 45 = .ok (.iconst 1, 1) := by decide +kernel
theorem dX8_fewestBreaks_46 : decode cX8_fewestBreaks 46 = .ok (.aload_n 0, 1) := by decide +kernel
theorem dX8_fewestBreaks_47 : decode cX8_fewestBreaks 47 = .ok (.getfield 10, 3) := by decide +kernel
theorem dX8_fewestBreaks_50 : decode cX8_fewestBreaks 50 = .ok (.getfield 51, 3) := by decide +kernel
theorem dX8_fewestBreaks_53 : decode cX8_fewestBreaks 53 = .ok (.iload_n 1, 1) := by decide +kernel
theorem dX8_fewestBreaks_54 : decode cX8_fewestBreaks 54 = .ok (.iconst 2, 1) := by decide +kernel
theorem dX8_fewestBreaks_55 : decode cX8_fewestBreaks 55 = .ok (.invokevirtual 126, 3) := by decide +kernel
theorem dX8_fewestBreaks_58 : decode cX8_fewestBreaks 58 = .ok (.ishl, 1) := by decide +kernel
theorem dX8_fewestBreaks_59 : decode cX8_fewestBreaks 59 = .ok (.istore 5, 2) := by decide +kernel
theorem dX8_fewestBreaks_61 : decode cX8_fewestBreaks 61 = .ok (.iconst 1, 1) := by decide +kernel
theorem dX8_fewestBreaks_62 : decode cX8_fewestBreaks 62 = .ok (.istore 6, 2) := by decide +kernel
theorem dX8_fewestBreaks_64 : decode cX8_fewestBreaks 64 = .ok (.iload 6, 2) := by decide +kernel
theorem dX8_fewestBreaks_66 : decode cX8_fewestBreaks 66 = .ok (.iload 5, 2) := by decide +kernel
theorem dX8_fewestBreaks_68 : decode cX8_fewestBreaks 68 = .ok (.if_icmp .ge 40, 3) := by decide +kernel
theorem dX8_fewestBreaks_71 : decode cX8_fewestBreaks 71 = .ok (.iload 6, 2) := by decide +kernel
theorem dX8_fewestBreaks_73 : decode cX8_fewestBreaks 73 = .ok (.invokestatic 178, 3) := by decide +kernel
theorem dX8_fewestBreaks_76 : decode cX8_fewestBreaks 76 = .ok (.istore 7, 2) := by decide +kernel
theorem dX8_fewestBreaks_78 : decode cX8_fewestBreaks 78 = .ok (.iload 7, 2) := by decide +kernel
theorem dX8_fewestBreaks_80 : decode cX8_fewestBreaks 80 = .ok (.iload 4, 2) := by decide +kernel
theorem dX8_fewestBreaks_82 : decode cX8_fewestBreaks 82 = .ok (.if_icmp .ge 20, 3) := by decide +kernel
theorem dX8_fewestBreaks_85 : decode cX8_fewestBreaks 85 = .ok (.aload_n 0, 1) := by decide +kernel
theorem dX8_fewestBreaks_86 : decode cX8_fewestBreaks 86 = .ok (.iload 6, 2) := by decide +kernel
theorem dX8_fewestBreaks_88 : decode cX8_fewestBreaks 88 = .ok (.iload_n 2, 1) := by decide +kernel
theorem dX8_fewestBreaks_89 : decode cX8_fewestBreaks 89 = .ok (.invokevirtual 262, 3) := by decide +kernel
theorem dX8_fewestBreaks_92 : decode cX8_fewestBreaks 92 = .ok (.ifCond .eq 10, 3) := by decide +kernel
theorem dX8_fewestBreaks_95 : decode cX8_fewestBreaks 95 = .ok (.iload 7, 2) := by decide +kernel
theorem dX8_fewestBreaks_97 : decode cX8_fewestBreaks 97 = .ok (.istore 4, 2) := by decide +kernel
theorem dX8_fewestBreaks_99 : decode cX8_fewestBreaks 99 = .ok (.iload 6, 2) := by decide +kernel
theorem dX8_fewestBreaks_101 : decode cX8_fewestBreaks 101 = .ok (.istore_n 3, 1) := by decide +kernel
theorem dX8_fewestBreaks_102 : decode cX8_fewestBreaks 102 = .ok (.iinc 6 1, 3) := by decide +kernel
theorem dX8_fewestBreaks_105 : decode cX8_fewestBreaks 105 = .ok (.goto (-41), 3) := by decide +kernel
theorem dX8_fewestBreaks_108 : decode cX8_fewestBreaks 108 = .ok (.iload_n 3, 1) := by decide +kernel
theorem dX8_fewestBreaks_109 : decode cX8_fewestBreaks 109 = .ok (.ireturn, 1) := by decide +kernel
theorem dX8_inchesThatTell_0 : decode cX8_inchesThatTell 0 = .ok (.iconst 0, 1) := by decide +kernel
theorem dX8_inchesThatTell_1 : decode cX8_inchesThatTell 1 = .ok (.istore_n 3, 1) := by decide +kernel
theorem dX8_inchesThatTell_2 : decode cX8_inchesThatTell 2 = .ok (.aload_n 0, 1) := by decide +kernel
theorem dX8_inchesThatTell_3 : decode cX8_inchesThatTell 3 = .ok (.getfield 10, 3) := by decide +kernel
theorem dX8_inchesThatTell_6 : decode cX8_inchesThatTell 6 = .ok (.getfield 51, 3) := by decide +kernel
theorem dX8_inchesThatTell_9 : decode cX8_inchesThatTell 9 = .ok (.iload_n 1, 1) := by decide +kernel
theorem dX8_inchesThatTell_10 : decode cX8_inchesThatTell 10 = .ok (.iconst 2, 1) := by decide +kernel
theorem dX8_inchesThatTell_11 : decode cX8_inchesThatTell 11 = .ok (.invokevirtual 126, 3) := by decide +kernel
theorem dX8_inchesThatTell_14 : decode cX8_inchesThatTell 14 = .ok (.istore 4, 2) := by decide +kernel
theorem dX8_inchesThatTell_16 : decode cX8_inchesThatTell 16 = .ok (.iconst 0, 1) := by decide +kernel
theorem dX8_inchesThatTell_17 : decode cX8_inchesThatTell 17 = .ok (.istore 5, 2) := by decide +kernel
theorem dX8_inchesThatTell_19 : decode cX8_inchesThatTell 19 = .ok (.iload 5, 2) := by decide +kernel
theorem dX8_inchesThatTell_21 : decode cX8_inchesThatTell 21 = .ok (.iload 4, 2) := by decide +kernel
theorem dX8_inchesThatTell_23 : decode cX8_inchesThatTell 23 = .ok (.if_icmp .ge 46, 3) := by decide +kernel
theorem dX8_inchesThatTell_26 : decode cX8_inchesThatTell 26 = .ok (.aload_n 0, 1) := by decide +kernel
theorem dX8_inchesThatTell_27 : decode cX8_inchesThatTell 27 = .ok (.getfield 10, 3) := by decide +kernel
theorem dX8_inchesThatTell_30 : decode cX8_inchesThatTell 30 = .ok (.getfield 51, 3) := by decide +kernel
theorem dX8_inchesThatTell_33 : decode cX8_inchesThatTell 33 = .ok (.iload_n 1, 1) := by decide +kernel
theorem dX8_inchesThatTell_34 : decode cX8_inchesThatTell 34 = .ok (.iload_n 2, 1) := by decide +kernel
theorem dX8_inchesThatTell_35 : decode cX8_inchesThatTell 35 = .ok (.iload 5, 2) := by decide +kernel
theorem dX8_inchesThatTell_37 : decode cX8_inchesThatTell 37 = .ok (.invokevirtual 265, 3) := by decide +kernel
theorem dX8_inchesThatTell_40 : decode cX8_inchesThatTell 40 = .ok (.aload_n 0, 1) := by decide +kernel
theorem dX8_inchesThatTell_41 : decode cX8_inchesThatTell 41 = .ok (.getfield 10, 3) := by decide +kernel
theorem dX8_inchesThatTell_44 : decode cX8_inchesThatTell 44 = .ok (.getfield 51, 3) := by decide +kernel
theorem dX8_inchesThatTell_47 : decode cX8_inchesThatTell 47 = .ok (.iload_n 1, 1) := by decide +kernel
theorem dX8_inchesThatTell_48 : decode cX8_inchesThatTell 48 = .ok (.iload 5, 2) := by decide +kernel
theorem dX8_inchesThatTell_50 : decode cX8_inchesThatTell 50 = .ok (.invokevirtual 137, 3) := by decide +kernel
theorem dX8_inchesThatTell_53 : decode cX8_inchesThatTell 53 = .ok (.if_icmp .eq 10, 3) := by decide +kernel
theorem dX8_inchesThatTell_56 : decode cX8_inchesThatTell 56 = .ok (.iload_n 3, 1) := by decide +kernel
theorem dX8_inchesThatTell_57 : decode cX8_inchesThatTell 57 = .ok (.iconst 1, 1) := by decide +kernel
theorem dX8_inchesThatTell_58 : decode cX8_inchesThatTell 58 = .ok (.iload 5, 2) := by decide +kernel
theorem dX8_inchesThatTell_60 : decode cX8_inchesThatTell 60 = .ok (.ishl, 1) := by decide +kernel
theorem dX8_inchesThatTell_61 : decode cX8_inchesThatTell 61 = .ok (.ior, 1) := by decide +kernel
theorem dX8_inchesThatTell_62 : decode cX8_inchesThatTell 62 = .ok (.istore_n 3, 1) := by decide +kernel
theorem dX8_inchesThatTell_63 : decode cX8_inchesThatTell 63 = .ok (.iinc 5 1, 3) := by decide +kernel
theorem dX8_inchesThatTell_66 : decode cX8_inchesThatTell 66 = .ok (.goto (-47), 3) := by decide +kernel
theorem dX8_inchesThatTell_69 : decode cX8_inchesThatTell 69 = .ok (.iload_n 3, 1) := by decide +kernel
theorem dX8_inchesThatTell_70 : decode cX8_inchesThatTell 70 = .ok (.ireturn, 1) := by decide +kernel
theorem dX8_tellsAll_0 : decode cX8_tellsAll 0 = .ok (.iconst 0, 1) := by decide +kernel
theorem dX8_tellsAll_1 : decode cX8_tellsAll 1 = .ok (.istore_n 3, 1) := by decide +kernel
theorem dX8_tellsAll_2 : decode cX8_tellsAll 2 = .ok (.iload_n 3, 1) := by decide +kernel
theorem dX8_tellsAll_3 : decode cX8_tellsAll 3 = .ok (.bipush 6, 2) := by decide +kernel
theorem dX8_tellsAll_5 : decode cX8_tellsAll 5 = .ok (.if_icmp .ge 27, 3) := by decide +kernel
theorem dX8_tellsAll_8 : decode cX8_tellsAll 8 = .ok (.iload_n 3, 1) := by decide +kernel
theorem dX8_tellsAll_9 : decode cX8_tellsAll 9 = .ok (.iload_n 2, 1) := by decide +kernel
theorem dX8_tellsAll_10 : decode cX8_tellsAll 10 = .ok (.if_icmp .eq 16, 3) := by decide +kernel
theorem dX8_tellsAll_13 : decode cX8_tellsAll 13 = .ok (.iload_n 1, 1) := by decide +kernel
theorem dX8_tellsAll_14 : decode cX8_tellsAll 14 = .ok (.aload_n 0, 1) := by decide +kernel
theorem dX8_tellsAll_15 : decode cX8_tellsAll 15 = .ok (.getfield 41, 3) := by decide +kernel
theorem dX8_tellsAll_18 : decode cX8_tellsAll 18 = .ok (.iload_n 3, 1) := by decide +kernel
theorem dX8_tellsAll_19 : decode cX8_tellsAll 19 = .ok (.iaload, 1) := by decide +kernel
theorem dX8_tellsAll_20 : decode cX8_tellsAll 20 = .ok (.iand, 1) := by decide +kernel
theorem dX8_tellsAll_21 : decode cX8_tellsAll 21 = .ok (.ifCond .ne 5, 3) := by decide +kernel
theorem dX8_tellsAll_24 : decode cX8_tellsAll 24 = .ok (.iconst 0, 1) := by decide +kernel
theorem dX8_tellsAll_25 : decode cX8_tellsAll 25 = .ok (.ireturn, 1) := by decide +kernel
theorem dX8_tellsAll_26 : decode cX8_tellsAll 26 = .ok (.iinc 3 1, 3) := by decide +kernel
theorem dX8_tellsAll_29 : decode cX8_tellsAll 29 = .ok (.goto (-27), 3) := by decide +kernel
theorem dX8_tellsAll_32 : decode cX8_tellsAll 32 = .ok (.iconst 1, 1) := by decide +kernel
theorem dX8_tellsAll_33 : decode cX8_tellsAll 33 = .ok (.ireturn, 1) := by decide +kernel
theorem dX8_kindsThatFit_0 : decode cX8_kindsThatFit 0 = .ok (.iconst 0, 1) := by decide +kernel
theorem dX8_kindsThatFit_1 : decode cX8_kindsThatFit 1 = .ok (.istore_n 2, 1) := by decide +kernel
theorem dX8_kindsThatFit_2 : decode cX8_kindsThatFit 2 = .ok (.aload_n 0, 1) := by decide +kernel
theorem dX8_kindsThatFit_3 : decode cX8_kindsThatFit 3 = .ok (.getfield 10, 3) := by decide +kernel
theorem dX8_kindsThatFit_6 : decode cX8_kindsThatFit 6 = .ok (.getfield 51, 3) := by decide +kernel
theorem dX8_kindsThatFit_9 : decode cX8_kindsThatFit 9 = .ok (.iload_n 1, 1) := by decide +kernel
theorem dX8_kindsThatFit_10 : decode cX8_kindsThatFit 10 = .ok (.iconst 1, 1) := by decide +kernel
theorem dX8_kindsThatFit_11 : decode cX8_kindsThatFit 11 = .ok (.invokevirtual 126, 3) := by decide +kernel
theorem dX8_kindsThatFit_14 : decode cX8_kindsThatFit 14 = .ok (.istore_n 3, 1) := by decide +kernel
theorem dX8_kindsThatFit_15 : decode cX8_kindsThatFit 15 = .ok (.iconst 0, 1) := by decide +kernel
theorem dX8_kindsThatFit_16 : decode cX8_kindsThatFit 16 = .ok (.istore 4, 2) := by decide +kernel
theorem dX8_kindsThatFit_18 : decode cX8_kindsThatFit 18 = .ok (.iload 4, 2) := by decide +kernel
theorem dX8_kindsThatFit_20 : decode cX8_kindsThatFit 20 = .ok (.bipush 6, 2) := by decide +kernel
theorem dX8_kindsThatFit_22 : decode cX8_kindsThatFit 22 = .ok (.if_icmp .ge 33, 3) := by decide +kernel
theorem dX8_kindsThatFit_25 : decode cX8_kindsThatFit 25 = .ok (.aload_n 0, 1) := by decide +kernel
theorem dX8_kindsThatFit_26 : decode cX8_kindsThatFit 26 = .ok (.getfield 10, 3) := by decide +kernel
theorem dX8_kindsThatFit_29 : decode cX8_kindsThatFit 29 = .ok (.getfield 143, 3) := by decide +kernel
theorem dX8_kindsThatFit_32 : decode cX8_kindsThatFit 32 = .ok (.iload_n 1, 1) := by decide +kernel
theorem dX8_kindsThatFit_33 : decode cX8_kindsThatFit 33 = .ok (.iload 4, 2) := by decide +kernel
theorem dX8_kindsThatFit_35 : decode cX8_kindsThatFit 35 = .ok (.iload_n 3, 1) := by decide +kernel
theorem dX8_kindsThatFit_36 : decode cX8_kindsThatFit 36 = .ok (.invokevirtual 212, 3) := by decide +kernel
theorem dX8_kindsThatFit_39 : decode cX8_kindsThatFit 39 = .ok (.ifCond .eq 10, 3) := by decide +kernel
theorem dX8_kindsThatFit_42 : decode cX8_kindsThatFit 42 = .ok (.iload_n 2, 1) := by decide +kernel
theorem dX8_kindsThatFit_43 : decode cX8_kindsThatFit 43 = .ok (.iconst 1, 1) := by decide +kernel
theorem dX8_kindsThatFit_44 : decode cX8_kindsThatFit 44 = .ok (.iload 4, 2) := by decide +kernel
theorem dX8_kindsThatFit_46 : decode cX8_kindsThatFit 46 = .ok (.ishl, 1) := by decide +kernel
theorem dX8_kindsThatFit_47 : decode cX8_kindsThatFit 47 = .ok (.ior, 1) := by decide +kernel
theorem dX8_kindsThatFit_48 : decode cX8_kindsThatFit 48 = .ok (.istore_n 2, 1) := by decide +kernel
theorem dX8_kindsThatFit_49 : decode cX8_kindsThatFit 49 = .ok (.iinc 4 1, 3) := by decide +kernel
theorem dX8_kindsThatFit_52 : decode cX8_kindsThatFit 52 = .ok (.goto (-34), 3) := by decide +kernel
theorem dX8_kindsThatFit_55 : decode cX8_kindsThatFit 55 = .ok (.iload_n 2, 1) := by decide +kernel
theorem dX8_kindsThatFit_56 : decode cX8_kindsThatFit 56 = .ok (.ireturn, 1) := by decide +kernel
theorem dX8_mostAlike_0 : decode cX8_mostAlike 0 = .ok (.iconst 0, 1) := by decide +kernel
theorem dX8_mostAlike_1 : decode cX8_mostAlike 1 = .ok (.istore 4, 2) := by decide +kernel
theorem dX8_mostAlike_3 : decode cX8_mostAlike 3 = .ok (.iload 4, 2) := by decide +kernel
theorem dX8_mostAlike_5 : decode cX8_mostAlike 5 = .ok (.bipush 6, 2) := by decide +kernel
theorem dX8_mostAlike_7 : decode cX8_mostAlike 7 = .ok (.if_icmp .ge 30, 3) := by decide +kernel
theorem dX8_mostAlike_10 : decode cX8_mostAlike 10 = .ok (.aload_n 0, 1) := by decide +kernel
theorem dX8_mostAlike_11 : decode cX8_mostAlike 11 = .ok (.getfield 41, 3) := by decide +kernel
theorem dX8_mostAlike_14 : decode cX8_mostAlike 14 = .ok (.iload 4, 2) := by decide +kernel
theorem dX8_mostAlike_16 : decode cX8_mostAlike 16 = .ok (.aload_n 0, 1) := by decide +kernel
theorem dX8_mostAlike_17 : decode cX8_mostAlike 17 = .ok (.getfield 10, 3) := by decide +kernel
theorem dX8_mostAlike_20 : decode cX8_mostAlike 20 = .ok (.getfield 51, 3) := by decide +kernel
theorem dX8_mostAlike_23 : decode cX8_mostAlike 23 = .ok (.iload_n 1, 1) := by decide +kernel
theorem dX8_mostAlike_24 : decode cX8_mostAlike 24 = .ok (.iload 4, 2) := by decide +kernel
theorem dX8_mostAlike_26 : decode cX8_mostAlike 26 = .ok (.iload_n 3, 1) := by decide +kernel
theorem dX8_mostAlike_27 : decode cX8_mostAlike 27 = .ok (.invokevirtual 265, 3) := by decide +kernel
theorem dX8_mostAlike_30 : decode cX8_mostAlike 30 = .ok (.iastore, 1) := by decide +kernel
theorem dX8_mostAlike_31 : decode cX8_mostAlike 31 = .ok (.iinc 4 1, 3) := by decide +kernel
theorem dX8_mostAlike_34 : decode cX8_mostAlike 34 = .ok (.goto (-31), 3) := by decide +kernel
theorem dX8_mostAlike_37 : decode cX8_mostAlike 37 = .ok (.iconst 0, 1) := by decide +kernel
theorem dX8_mostAlike_38 : decode cX8_mostAlike 38 = .ok (.istore 4, 2) := by decide +kernel
theorem dX8_mostAlike_40 : decode cX8_mostAlike 40 = .ok (.iconst 0, 1) := by decide +kernel
theorem dX8_mostAlike_41 : decode cX8_mostAlike 41 = .ok (.istore 5, 2) := by decide +kernel
theorem dX8_mostAlike_43 : decode cX8_mostAlike 43 = .ok (.iload 5, 2) := by decide +kernel
theorem dX8_mostAlike_45 : decode cX8_mostAlike 45 = .ok (.bipush 6, 2) := by decide +kernel
theorem dX8_mostAlike_47 : decode cX8_mostAlike 47 = .ok (.if_icmp .ge 28, 3) := by decide +kernel
theorem dX8_mostAlike_50 : decode cX8_mostAlike 50 = .ok (.iload 4, 2) := by decide +kernel
theorem dX8_mostAlike_52 : decode cX8_mostAlike 52 = .ok (.aload_n 0, 1) := by decide +kernel
theorem dX8_mostAlike_53 : decode cX8_mostAlike 53 = .ok (.aload_n 0, 1) := by decide +kernel
theorem dX8_mostAlike_54 : decode cX8_mostAlike 54 = .ok (.getfield 41, 3) := by decide +kernel
theorem dX8_mostAlike_57 : decode cX8_mostAlike 57 = .ok (.iload 5, 2) := by decide +kernel
theorem dX8_mostAlike_59 : decode cX8_mostAlike 59 = .ok (.iaload, 1) := by decide +kernel
theorem dX8_mostAlike_60 : decode cX8_mostAlike 60 = .ok (.iload_n 2, 1) := by decide +kernel
theorem dX8_mostAlike_61 : decode cX8_mostAlike 61 = .ok (.invokevirtual 268, 3) := by decide +kernel
theorem dX8_mostAlike_64 : decode cX8_mostAlike 64 = .ok (.invokestatic 155, 3) := by decide +kernel
theorem dX8_mostAlike_67 : decode cX8_mostAlike 67 = .ok (.istore 4, 2) := by decide +kernel
theorem dX8_mostAlike_69 : decode cX8_mostAlike 69 = .ok (.iinc 5 1, 3) := by decide +kernel
theorem dX8_mostAlike_72 : decode cX8_mostAlike 72 = .ok (.goto (-29), 3) := by decide +kernel
theorem dX8_mostAlike_75 : decode cX8_mostAlike 75 = .ok (.iload 4, 2) := by decide +kernel
theorem dX8_mostAlike_77 : decode cX8_mostAlike 77 = .ok (.ireturn, 1) := by decide +kernel
theorem dX8_kindsSeenAs_0 : decode cX8_kindsSeenAs 0 = .ok (.iconst 0, 1) := by decide +kernel
theorem dX8_kindsSeenAs_1 : decode cX8_kindsSeenAs 1 = .ok (.istore_n 3, 1) := by decide +kernel
theorem dX8_kindsSeenAs_2 : decode cX8_kindsSeenAs 2 = .ok (.iconst 0, 1) := by decide +kernel
theorem dX8_kindsSeenAs_3 : decode cX8_kindsSeenAs 3 = .ok (.istore 4, 2) := by decide +kernel
theorem dX8_kindsSeenAs_5 : decode cX8_kindsSeenAs 5 = .ok (.iload 4, 2) := by decide +kernel
theorem dX8_kindsSeenAs_7 : decode cX8_kindsSeenAs 7 = .ok (.bipush 6, 2) := by decide +kernel
theorem dX8_kindsSeenAs_9 : decode cX8_kindsSeenAs 9 = .ok (.if_icmp .ge 32, 3) := by decide +kernel
theorem dX8_kindsSeenAs_12 : decode cX8_kindsSeenAs 12 = .ok (.iload_n 2, 1) := by decide +kernel
theorem dX8_kindsSeenAs_13 : decode cX8_kindsSeenAs 13 = .ok (.iconst 1, 1) := by decide +kernel
theorem dX8_kindsSeenAs_14 : decode cX8_kindsSeenAs 14 = .ok (.iload 4, 2) := by decide +kernel
theorem dX8_kindsSeenAs_16 : decode cX8_kindsSeenAs 16 = .ok (.ishl, 1) := by decide +kernel
theorem dX8_kindsSeenAs_17 : decode cX8_kindsSeenAs 17 = .ok (.iand, 1) := by decide +kernel
theorem dX8_kindsSeenAs_18 : decode cX8_kindsSeenAs 18 = .ok (.ifCond .eq 17, 3) := by decide +kernel
theorem dX8_kindsSeenAs_21 : decode cX8_kindsSeenAs 21 = .ok (.aload_n 0, 1) := by decide +kernel
theorem dX8_kindsSeenAs_22 : decode cX8_kindsSeenAs 22 = .ok (.getfield 41, 3) := by decide +kernel
theorem dX8_kindsSeenAs_25 : decode cX8_kindsSeenAs 25 = .ok (.iload 4, 2) := by decide +kernel
theorem dX8_kindsSeenAs_27 : decode cX8_kindsSeenAs 27 = .ok (.iaload, 1) := by decide +kernel
theorem dX8_kindsSeenAs_28 : decode cX8_kindsSeenAs 28 = .ok (.iload_n 1, 1) := by decide +kernel
theorem dX8_kindsSeenAs_29 : decode cX8_kindsSeenAs 29 = .ok (.if_icmp .ne 6, 3) := by decide +kernel
theorem dX8_kindsSeenAs_32 : decode cX8_kindsSeenAs 32 = .ok (.iinc 3 1, 3) := by decide +kernel
theorem dX8_kindsSeenAs_35 : decode cX8_kindsSeenAs 35 = .ok (.iinc 4 1, 3) := by decide +kernel
theorem dX8_kindsSeenAs_38 : decode cX8_kindsSeenAs 38 = .ok (.goto (-33), 3) := by decide +kernel
theorem dX8_kindsSeenAs_41 : decode cX8_kindsSeenAs 41 = .ok (.iload_n 3, 1) := by decide +kernel
theorem dX8_kindsSeenAs_42 : decode cX8_kindsSeenAs 42 = .ok (.ireturn, 1) := by decide +kernel
theorem dX8_pairsAlike_0 : decode cX8_pairsAlike 0 = .ok (.iconst 0, 1) := by decide +kernel
theorem dX8_pairsAlike_1 : decode cX8_pairsAlike 1 = .ok (.istore_n 3, 1) := by decide +kernel
theorem dX8_pairsAlike_2 : decode cX8_pairsAlike 2 = .ok (.iconst 0, 1) := by decide +kernel
theorem dX8_pairsAlike_3 : decode cX8_pairsAlike 3 = .ok (.istore 4, 2) := by decide +kernel
theorem dX8_pairsAlike_5 : decode cX8_pairsAlike 5 = .ok (.iload 4, 2) := by decide +kernel
theorem dX8_pairsAlike_7 : decode cX8_pairsAlike 7 = .ok (.iconst 4, 1) := by decide +kernel
theorem dX8_pairsAlike_8 : decode cX8_pairsAlike 8 = .ok (.if_icmp .ge 61, 3) := by decide +kernel
theorem dX8_pairsAlike_11 : decode cX8_pairsAlike 11 = .ok (.iload 4, 2) := by decide +kernel
theorem dX8_pairsAlike_13 : decode cX8_pairsAlike 13 = .ok (.iconst 1, 1) := by decide +kernel
theorem dX8_pairsAlike_14 : decode cX8_pairsAlike 14 = .ok (.iand, 1) := by decide +kernel
theorem dX8_pairsAlike_15 : decode cX8_pairsAlike 15 = .ok (.iconst 4, 1) := by decide +kernel
theorem dX8_pairsAlike_16 : decode cX8_pairsAlike 16 = .ok (.imul, 1) := by decide +kernel
theorem dX8_pairsAlike_17 : decode cX8_pairsAlike 17 = .ok (.istore 5, 2) := by decide +kernel
theorem dX8_pairsAlike_19 : decode cX8_pairsAlike 19 = .ok (.iload 4, 2) := by decide +kernel
theorem dX8_pairsAlike_21 : decode cX8_pairsAlike 21 = .ok (.iconst 1, 1) := by decide +kernel
theorem dX8_pairsAlike_22 : decode cX8_pairsAlike 22 = .ok (.ishr, 1) := by decide +kernel
theorem dX8_pairsAlike_23 : decode cX8_pairsAlike 23 = .ok (.iconst 4, 1) := by decide +kernel
theorem dX8_pairsAlike_24 : decode cX8_pairsAlike 24 = .ok (.imul, 1) := by decide +kernel
theorem dX8_pairsAlike_25 : decode cX8_pairsAlike 25 = .ok (.istore 6, 2) := by decide +kernel
theorem dX8_pairsAlike_27 : decode cX8_pairsAlike 27 = .ok (.aload_n 0, 1) := by decide +kernel
theorem dX8_pairsAlike_28 : decode cX8_pairsAlike 28 = .ok (.getfield 10, 3) := by decide +kernel
theorem dX8_pairsAlike_31 : decode cX8_pairsAlike 31 = .ok (.getfield 51, 3) := by decide +kernel
theorem dX8_pairsAlike_34 : decode cX8_pairsAlike 34 = .ok (.iload_n 1, 1) := by decide +kernel
theorem dX8_pairsAlike_35 : decode cX8_pairsAlike 35 = .ok (.iload 5, 2) := by decide +kernel
theorem dX8_pairsAlike_37 : decode cX8_pairsAlike 37 = .ok (.invokevirtual 137, 3) := by decide +kernel
theorem dX8_pairsAlike_40 : decode cX8_pairsAlike 40 = .ok (.aload_n 0, 1) := by decide +kernel
theorem dX8_pairsAlike_41 : decode cX8_pairsAlike 41 = .ok (.getfield 10, 3) := by decide +kernel
theorem dX8_pairsAlike_44 : decode cX8_pairsAlike 44 = .ok (.getfield 51, 3) := by decide +kernel
theorem dX8_pairsAlike_47 : decode cX8_pairsAlike 47 = .ok (.iload_n 2, 1) := by decide +kernel
theorem dX8_pairsAlike_48 : decode cX8_pairsAlike 48 = .ok (.iload 6, 2) := by decide +kernel
theorem dX8_pairsAlike_50 : decode cX8_pairsAlike 50 = .ok (.invokevirtual 137, 3) := by decide +kernel
theorem dX8_pairsAlike_53 : decode cX8_pairsAlike 53 = .ok (.if_icmp .ne 10, 3) := by decide +kernel
theorem dX8_pairsAlike_56 : decode cX8_pairsAlike 56 = .ok (.iload_n 3, 1) := by decide +kernel
theorem dX8_pairsAlike_57 : decode cX8_pairsAlike 57 = .ok (.iconst 1, 1) := by decide +kernel
theorem dX8_pairsAlike_58 : decode cX8_pairsAlike 58 = .ok (.iload 4, 2) := by decide +kernel
theorem dX8_pairsAlike_60 : decode cX8_pairsAlike 60 = .ok (.ishl, 1) := by decide +kernel
theorem dX8_pairsAlike_61 : decode cX8_pairsAlike 61 = .ok (.ior, 1) := by decide +kernel
theorem dX8_pairsAlike_62 : decode cX8_pairsAlike 62 = .ok (.istore_n 3, 1) := by decide +kernel
theorem dX8_pairsAlike_63 : decode cX8_pairsAlike 63 = .ok (.iinc 4 1, 3) := by decide +kernel
theorem dX8_pairsAlike_66 : decode cX8_pairsAlike 66 = .ok (.goto (-61), 3) := by decide +kernel
theorem dX8_pairsAlike_69 : decode cX8_pairsAlike 69 = .ok (.iload_n 3, 1) := by decide +kernel
theorem dX8_pairsAlike_70 : decode cX8_pairsAlike 70 = .ok (.ireturn, 1) := by decide +kernel
theorem dX8_rests_0 : decode cX8_rests 0 = .ok (.iload_n 0, 1) := by decide +kernel
theorem dX8_rests_1 : decode cX8_rests 1 = .ok (.iload_n 1, 1) := by decide +kernel
theorem dX8_rests_2 : decode cX8_rests 2 = .ok (.invokestatic 271, 3) := by decide +kernel
theorem dX8_rests_5 : decode cX8_rests 5 = .ok (.iload_n 0, 1) := by decide +kernel
theorem dX8_rests_6 : decode cX8_rests 6 = .ok (.iload_n 1, 1) := by decide +kernel
theorem dX8_rests_7 : decode cX8_rests 7 = .ok (.iconst 1, 1) := by decide +kernel
theorem dX8_rests_8 : decode cX8_rests 8 = .ok (.ixor, 1) := by decide +kernel
theorem dX8_rests_9 : decode cX8_rests 9 = .ok (.invokestatic 271, 3) := by decide +kernel
theorem dX8_rests_12 : decode cX8_rests 12 = .ok (.if_icmp .lt 22, 3) := by decide +kernel
theorem dX8_rests_15 : decode cX8_rests 15 = .ok (.iload_n 0, 1) := by decide +kernel
theorem dX8_rests_16 : decode cX8_rests 16 = .ok (.iload_n 1, 1) := by decide +kernel
theorem dX8_rests_17 : decode cX8_rests 17 = .ok (.invokestatic 274, 3) := by decide +kernel
theorem dX8_rests_20 : decode cX8_rests 20 = .ok (.iload_n 0, 1) := by decide +kernel
theorem dX8_rests_21 : decode cX8_rests 21 = .ok (.iload_n 1, 1) := by decide +kernel
theorem dX8_rests_22 : decode cX8_rests 22 = .ok (.iconst 2, 1) := by decide +kernel
theorem dX8_rests_23 : decode cX8_rests 23 = .ok (.ixor, 1) := by decide +kernel
theorem dX8_rests_24 : decode cX8_rests 24 = .ok (.invokestatic 274, 3) := by decide +kernel
theorem dX8_rests_27 : decode cX8_rests 27 = .ok (.if_icmp .lt 7, 3) := by decide +kernel
theorem dX8_rests_30 : decode cX8_rests 30 = .ok (.iconst 1, 1) := by decide +kernel
theorem dX8_rests_31 : decode cX8_rests 31 = .ok (.goto 4, 3) := by decide +kernel
theorem dX8_rests_34 : decode cX8_rests 34 = .ok (.iconst 0, 1) := by decide +kernel
theorem dX8_rests_35 : decode cX8_rests 35 = .ok (.ireturn, 1) := by decide +kernel
theorem dX8_gainOfFirst_0 : decode cX8_gainOfFirst 0 = .ok (.iload_n 0, 1) := by decide +kernel
theorem dX8_gainOfFirst_1 : decode cX8_gainOfFirst 1 = .ok (.iconst 1, 1) := by decide +kernel
theorem dX8_gainOfFirst_2 : decode cX8_gainOfFirst 2 = .ok (.iload_n 1, 1) := by decide +kernel
theorem dX8_gainOfFirst_3 : decode cX8_gainOfFirst 3 = .ok (.ishl, 1) := by decide +kernel
theorem dX8_gainOfFirst_4 : decode cX8_gainOfFirst 4 = .ok (.iand, 1) := by decide +kernel
theorem dX8_gainOfFirst_5 : decode cX8_gainOfFirst 5 = .ok (.ifCond .eq 7, 3) := by decide +kernel
theorem dX8_gainOfFirst_8 : decode cX8_gainOfFirst 8 = .ok (.iconst 2, 1) := by decide +kernel
theorem dX8_gainOfFirst_9 : decode cX8_gainOfFirst 9 = .ok (.goto 4, 3) := by decide +kernel
theorem dX8_gainOfFirst_12 : decode cX8_gainOfFirst 12 = .ok (.iconst 0, 1) := by decide +kernel
theorem dX8_gainOfFirst_13 : decode cX8_gainOfFirst 13 = .ok (.iload_n 1, 1) := by decide +kernel
theorem dX8_gainOfFirst_14 : decode cX8_gainOfFirst 14 = .ok (.iconst 1, 1) := by decide +kernel
theorem dX8_gainOfFirst_15 : decode cX8_gainOfFirst 15 = .ok (.iand, 1) := by decide +kernel
theorem dX8_gainOfFirst_16 : decode cX8_gainOfFirst 16 = .ok (.isub, 1) := by decide +kernel
theorem dX8_gainOfFirst_17 : decode cX8_gainOfFirst 17 = .ok (.ireturn, 1) := by decide +kernel
theorem dX8_gainOfSecond_0 : decode cX8_gainOfSecond 0 = .ok (.iload_n 0, 1) := by decide +kernel
theorem dX8_gainOfSecond_1 : decode cX8_gainOfSecond 1 = .ok (.iconst 1, 1) := by decide +kernel
theorem dX8_gainOfSecond_2 : decode cX8_gainOfSecond 2 = .ok (.iload_n 1, 1) := by decide +kernel
theorem dX8_gainOfSecond_3 : decode cX8_gainOfSecond 3 = .ok (.ishl, 1) := by decide +kernel
theorem dX8_gainOfSecond_4 : decode cX8_gainOfSecond 4 = .ok (.iand, 1) := by decide +kernel
theorem dX8_gainOfSecond_5 : decode cX8_gainOfSecond 5 = .ok (.ifCond .eq 7, 3) := by decide +kernel
theorem dX8_gainOfSecond_8 : decode cX8_gainOfSecond 8 = .ok (.iconst 0, 1) := by decide +kernel
theorem dX8_gainOfSecond_9 : decode cX8_gainOfSecond 9 = .ok (.goto 4, 3) := by decide +kernel
theorem dX8_gainOfSecond_12 : decode cX8_gainOfSecond 12 = .ok (.iconst 2, 1) := by decide +kernel
theorem dX8_gainOfSecond_13 : decode cX8_gainOfSecond 13 = .ok (.iload_n 1, 1) := by decide +kernel
theorem dX8_gainOfSecond_14 : decode cX8_gainOfSecond 14 = .ok (.iconst 1, 1) := by decide +kernel
theorem dX8_gainOfSecond_15 : decode cX8_gainOfSecond 15 = .ok (.ishr, 1) := by decide +kernel
theorem dX8_gainOfSecond_16 : decode cX8_gainOfSecond 16 = .ok (.isub, 1) := by decide +kernel
theorem dX8_gainOfSecond_17 : decode cX8_gainOfSecond 17 = .ok (.ireturn, 1) := by decide +kernel
theorem dX8_lettersAfterYear_0 : decode cX8_lettersAfterYear 0 = .ok (.aload_n 0, 1) := by decide +kernel
theorem dX8_lettersAfterYear_1 : decode cX8_lettersAfterYear 1 = .ok (.getfield 10, 3) := by decide +kernel
theorem dX8_lettersAfterYear_4 : decode cX8_lettersAfterYear 4 = .ok (.getfield 51, 3) := by decide +kernel
theorem dX8_lettersAfterYear_7 : decode cX8_lettersAfterYear 7 = .ok (.iload_n 1, 1) := by decide +kernel
theorem dX8_lettersAfterYear_8 : decode cX8_lettersAfterYear 8 = .ok (.invokevirtual 115, 3) := by decide +kernel
theorem dX8_lettersAfterYear_11 : decode cX8_lettersAfterYear 11 = .ok (.ifCond .ne 5, 3) := by decide +kernel
theorem dX8_lettersAfterYear_14 : decode cX8_lettersAfterYear 14 = .ok (.iconst 0, 1) := by decide +kernel
theorem dX8_lettersAfterYear_15 : decode cX8_lettersAfterYear 15 = .ok (.ireturn, 1) := by decide +kernel
theorem dX8_lettersAfterYear_16 : decode cX8_lettersAfterYear 16 = .ok (.aload_n 0, 1) := by decide +kernel
theorem dX8_lettersAfterYear_17 : decode cX8_lettersAfterYear 17 = .ok (.getfield 38, 3) := by decide +kernel
theorem dX8_lettersAfterYear_20 : decode cX8_lettersAfterYear 20 = .ok (.iload_n 1, 1) := by decide +kernel
theorem dX8_lettersAfterYear_21 : decode cX8_lettersAfterYear 21 = .ok (.aload_n 0, 1) := by decide +kernel
theorem dX8_lettersAfterYear_22 : decode cX8_lettersAfterYear 22 = .ok (.getfield 38, 3) := by decide +kernel
theorem dX8_lettersAfterYear_25 : decode cX8_lettersAfterYear 25 = .ok (.iload_n 1, 1) := by decide +kernel
theorem dX8_lettersAfterYear_26 : decode cX8_lettersAfterYear 26 = .ok (.iaload, 1) := by decide +kernel
theorem dX8_lettersAfterYear_27 : decode cX8_lettersAfterYear 27 = .ok (.iconst 1, 1) := by decide +kernel
theorem dX8_lettersAfterYear_28 : decode cX8_lettersAfterYear 28 = .ok (.iadd, 1) := by decide +kernel
theorem dX8_lettersAfterYear_29 : decode cX8_lettersAfterYear 29 = .ok (.bipush 9, 2) := by decide +kernel
theorem dX8_lettersAfterYear_31 : decode cX8_lettersAfterYear 31 = .ok (.invokestatic 150, 3) := by decide +kernel
theorem dX8_lettersAfterYear_34 : decode cX8_lettersAfterYear 34 = .ok (.iastore, 1) := by decide +kernel
theorem dX8_lettersAfterYear_35 : decode cX8_lettersAfterYear 35 = .ok (.aload_n 0, 1) := by decide +kernel
theorem dX8_lettersAfterYear_36 : decode cX8_lettersAfterYear 36 = .ok (.getfield 10, 3) := by decide +kernel
theorem dX8_lettersAfterYear_39 : decode cX8_lettersAfterYear 39 = .ok (.getfield 51, 3) := by decide +kernel
theorem dX8_lettersAfterYear_42 : decode cX8_lettersAfterYear 42 = .ok (.iload_n 1, 1) := by decide +kernel
theorem dX8_lettersAfterYear_43 : decode cX8_lettersAfterYear 43 = .ok (.iconst 0, 1) := by decide +kernel
theorem dX8_lettersAfterYear_44 : decode cX8_lettersAfterYear 44 = .ok (.invokevirtual 126, 3) := by decide +kernel
theorem dX8_lettersAfterYear_47 : decode cX8_lettersAfterYear 47 = .ok (.istore_n 3, 1) := by decide +kernel
theorem dX8_lettersAfterYear_48 : decode cX8_lettersAfterYear 48 = .ok (.aload_n 0, 1) := by decide +kernel
theorem dX8_lettersAfterYear_49 : decode cX8_lettersAfterYear 49 = .ok (.getfield 10, 3) := by decide +kernel
theorem dX8_lettersAfterYear_52 : decode cX8_lettersAfterYear 52 = .ok (.getfield 51, 3) := by decide +kernel
theorem dX8_lettersAfterYear_55 : decode cX8_lettersAfterYear 55 = .ok (.iload_n 1, 1) := by decide +kernel
theorem dX8_lettersAfterYear_56 : decode cX8_lettersAfterYear 56 = .ok (.iconst 1, 1) := by decide +kernel
theorem dX8_lettersAfterYear_57 : decode cX8_lettersAfterYear 57 = .ok (.invokevirtual 126, 3) := by decide +kernel
theorem dX8_lettersAfterYear_60 : decode cX8_lettersAfterYear 60 = .ok (.istore 4, 2) := by decide +kernel
theorem dX8_lettersAfterYear_62 : decode cX8_lettersAfterYear 62 = .ok (.iload_n 3, 1) := by decide +kernel
theorem dX8_lettersAfterYear_63 : decode cX8_lettersAfterYear 63 = .ok (.iload 4, 2) := by decide +kernel
theorem dX8_lettersAfterYear_65 : decode cX8_lettersAfterYear 65 = .ok (.iload_n 2, 1) := by decide +kernel
theorem dX8_lettersAfterYear_66 : decode cX8_lettersAfterYear 66 = .ok (.aload_n 0, 1) := by decide +kernel
theorem dX8_lettersAfterYear_67 : decode cX8_lettersAfterYear 67 = .ok (.getfield 38, 3) := by decide +kernel
theorem dX8_lettersAfterYear_70 : decode cX8_lettersAfterYear 70 = .ok (.iload_n 1, 1) := by decide +kernel
theorem dX8_lettersAfterYear_71 : decode cX8_lettersAfterYear 71 = .ok (.iaload, 1) := by decide +kernel
theorem dX8_lettersAfterYear_72 : decode cX8_lettersAfterYear 72 = .ok (.invokestatic 172, 3) := by decide +kernel
theorem dX8_lettersAfterYear_75 : decode cX8_lettersAfterYear 75 = .ok (.invokestatic 183, 3) := by decide +kernel
theorem dX8_lettersAfterYear_78 : decode cX8_lettersAfterYear 78 = .ok (.ireturn, 1) := by decide +kernel
theorem dJ6_bitCount_0f7a4_0 : decode cJ6_bitCount_0f7a4 0 = .ok (.iload_n 0, 1) := by decide +kernel
theorem dJ6_bitCount_0f7a4_1 : decode cJ6_bitCount_0f7a4 1 = .ok (.iload_n 0, 1) := by decide +kernel
theorem dJ6_bitCount_0f7a4_2 : decode cJ6_bitCount_0f7a4 2 = .ok (.iconst 1, 1) := by decide +kernel
theorem dJ6_bitCount_0f7a4_3 : decode cJ6_bitCount_0f7a4 3 = .ok (.iushr, 1) := by decide +kernel
theorem dJ6_bitCount_0f7a4_4 : decode cJ6_bitCount_0f7a4 4 = .ok (.ldc_w 265, 3) := by decide +kernel
theorem dJ6_bitCount_0f7a4_7 : decode cJ6_bitCount_0f7a4 7 = .ok (.iand, 1) := by decide +kernel
theorem dJ6_bitCount_0f7a4_8 : decode cJ6_bitCount_0f7a4 8 = .ok (.isub, 1) := by decide +kernel
theorem dJ6_bitCount_0f7a4_9 : decode cJ6_bitCount_0f7a4 9 = .ok (.istore_n 0, 1) := by decide +kernel
theorem dJ6_bitCount_0f7a4_10 : decode cJ6_bitCount_0f7a4 10 = .ok (.iload_n 0, 1) := by decide +kernel
theorem dJ6_bitCount_0f7a4_11 : decode cJ6_bitCount_0f7a4 11 = .ok (.ldc_w 266, 3) := by decide +kernel
theorem dJ6_bitCount_0f7a4_14 : decode cJ6_bitCount_0f7a4 14 = .ok (.iand, 1) := by decide +kernel
theorem dJ6_bitCount_0f7a4_15 : decode cJ6_bitCount_0f7a4 15 = .ok (.iload_n 0, 1) := by decide +kernel
theorem dJ6_bitCount_0f7a4_16 : decode cJ6_bitCount_0f7a4 16 = .ok (.iconst 2, 1) := by decide +kernel
theorem dJ6_bitCount_0f7a4_17 : decode cJ6_bitCount_0f7a4 17 = .ok (.iushr, 1) := by decide +kernel
theorem dJ6_bitCount_0f7a4_18 : decode cJ6_bitCount_0f7a4 18 = .ok (.ldc_w 266, 3) := by decide +kernel
theorem dJ6_bitCount_0f7a4_21 : decode cJ6_bitCount_0f7a4 21 = .ok (.iand, 1) := by decide +kernel
theorem dJ6_bitCount_0f7a4_22 : decode cJ6_bitCount_0f7a4 22 = .ok (.iadd, 1) := by decide +kernel
theorem dJ6_bitCount_0f7a4_23 : decode cJ6_bitCount_0f7a4 23 = .ok (.istore_n 0, 1) := by decide +kernel
theorem dJ6_bitCount_0f7a4_24 : decode cJ6_bitCount_0f7a4 24 = .ok (.iload_n 0, 1) := by decide +kernel
theorem dJ6_bitCount_0f7a4_25 : decode cJ6_bitCount_0f7a4 25 = .ok (.iload_n 0, 1) := by decide +kernel
theorem dJ6_bitCount_0f7a4_26 : decode cJ6_bitCount_0f7a4 26 = .ok (.iconst 4, 1) := by decide +kernel
theorem dJ6_bitCount_0f7a4_27 : decode cJ6_bitCount_0f7a4 27 = .ok (.iushr, 1) := by decide +kernel
theorem dJ6_bitCount_0f7a4_28 : decode cJ6_bitCount_0f7a4 28 = .ok (.iadd, 1) := by decide +kernel
theorem dJ6_bitCount_0f7a4_29 : decode cJ6_bitCount_0f7a4 29 = .ok (.ldc_w 267, 3) := by decide +kernel
theorem dJ6_bitCount_0f7a4_32 : decode cJ6_bitCount_0f7a4 32 = .ok (.iand, 1) := by decide +kernel
theorem dJ6_bitCount_0f7a4_33 : decode cJ6_bitCount_0f7a4 33 = .ok (.istore_n 0, 1) := by decide +kernel
theorem dJ6_bitCount_0f7a4_34 : decode cJ6_bitCount_0f7a4 34 = .ok (.iload_n 0, 1) := by decide +kernel
theorem dJ6_bitCount_0f7a4_35 : decode cJ6_bitCount_0f7a4 35 = .ok (.iload_n 0, 1) := by decide +kernel
theorem dJ6_bitCount_0f7a4_36 : decode cJ6_bitCount_0f7a4 36 = .ok (.bipush 8, 2) := by decide +kernel
theorem dJ6_bitCount_0f7a4_38 : decode cJ6_bitCount_0f7a4 38 = .ok (.iushr, 1) := by decide +kernel
theorem dJ6_bitCount_0f7a4_39 : decode cJ6_bitCount_0f7a4 39 = .ok (.iadd, 1) := by decide +kernel
theorem dJ6_bitCount_0f7a4_40 : decode cJ6_bitCount_0f7a4 40 = .ok (.istore_n 0, 1) := by decide +kernel
theorem dJ6_bitCount_0f7a4_41 : decode cJ6_bitCount_0f7a4 41 = .ok (.iload_n 0, 1) := by decide +kernel
theorem dJ6_bitCount_0f7a4_42 : decode cJ6_bitCount_0f7a4 42 = .ok (.iload_n 0, 1) := by decide +kernel
theorem dJ6_bitCount_0f7a4_43 : decode cJ6_bitCount_0f7a4 43 = .ok (.bipush 16, 2) := by decide +kernel
theorem dJ6_bitCount_0f7a4_45 : decode cJ6_bitCount_0f7a4 45 = .ok (.iushr, 1) := by decide +kernel
theorem dJ6_bitCount_0f7a4_46 : decode cJ6_bitCount_0f7a4 46 = .ok (.iadd, 1) := by decide +kernel
theorem dJ6_bitCount_0f7a4_47 : decode cJ6_bitCount_0f7a4 47 = .ok (.istore_n 0, 1) := by decide +kernel
theorem dJ6_bitCount_0f7a4_48 : decode cJ6_bitCount_0f7a4 48 = .ok (.iload_n 0, 1) := by decide +kernel
theorem dJ6_bitCount_0f7a4_49 : decode cJ6_bitCount_0f7a4 49 = .ok (.bipush 63, 2) := by decide +kernel
theorem dJ6_bitCount_0f7a4_51 : decode cJ6_bitCount_0f7a4 51 = .ok (.iand, 1) := by decide +kernel
theorem dJ6_bitCount_0f7a4_52 : decode cJ6_bitCount_0f7a4 52 = .ok (.ireturn, 1) := by decide +kernel
theorem dJ9_max_7cf53_0 : decode cJ9_max_7cf53 0 = .ok (.iload_n 0, 1) := by decide +kernel
theorem dJ9_max_7cf53_1 : decode cJ9_max_7cf53 1 = .ok (.iload_n 1, 1) := by decide +kernel
theorem dJ9_max_7cf53_2 : decode cJ9_max_7cf53 2 = .ok (.if_icmp .lt 7, 3) := by decide +kernel
theorem dJ9_max_7cf53_5 : decode cJ9_max_7cf53 5 = .ok (.iload_n 0, 1) := by decide +kernel
theorem dJ9_max_7cf53_6 : decode cJ9_max_7cf53 6 = .ok (.goto 4, 3) := by decide +kernel
theorem dJ9_max_7cf53_9 : decode cJ9_max_7cf53 9 = .ok (.iload_n 1, 1) := by decide +kernel
theorem dJ9_max_7cf53_10 : decode cJ9_max_7cf53 10 = .ok (.ireturn, 1) := by decide +kernel
theorem dJ9_min_7cf53_0 : decode cJ9_min_7cf53 0 = .ok (.iload_n 0, 1) := by decide +kernel
theorem dJ9_min_7cf53_1 : decode cJ9_min_7cf53 1 = .ok (.iload_n 1, 1) := by decide +kernel
theorem dJ9_min_7cf53_2 : decode cJ9_min_7cf53 2 = .ok (.if_icmp .gt 7, 3) := by decide +kernel
theorem dJ9_min_7cf53_5 : decode cJ9_min_7cf53 5 = .ok (.iload_n 0, 1) := by decide +kernel
theorem dJ9_min_7cf53_6 : decode cJ9_min_7cf53 6 = .ok (.goto 4, 3) := by decide +kernel
theorem dJ9_min_7cf53_9 : decode cJ9_min_7cf53 9 = .ok (.iload_n 1, 1) := by decide +kernel
theorem dJ9_min_7cf53_10 : decode cJ9_min_7cf53 10 = .ok (.ireturn, 1) := by decide +kernel
theorem dJ0_length_8abf5_0 : decode cJ0_length_8abf5 0 = .ok (.aload_n 0, 1) := by decide +kernel
theorem dJ0_length_8abf5_1 : decode cJ0_length_8abf5 1 = .ok (.getfield 9, 3) := by decide +kernel
theorem dJ0_length_8abf5_4 : decode cJ0_length_8abf5 4 = .ok (.arraylength, 1) := by decide +kernel
theorem dJ0_length_8abf5_5 : decode cJ0_length_8abf5 5 = .ok (.aload_n 0, 1) := by decide +kernel
theorem dJ0_length_8abf5_6 : decode cJ0_length_8abf5 6 = .ok (.invokevirtual 335, 3) := by decide +kernel
theorem dJ0_length_8abf5_9 : decode cJ0_length_8abf5 9 = .ok (.ishr, 1) := by decide +kernel
theorem dJ0_length_8abf5_10 : decode cJ0_length_8abf5 10 = .ok (.ireturn, 1) := by decide +kernel
theorem dJ0_charAt_5068e_0 : decode cJ0_charAt_5068e 0 = .ok (.aload_n 0, 1) := by decide +kernel
theorem dJ0_charAt_5068e_1 : decode cJ0_charAt_5068e 1 = .ok (.invokevirtual 492, 3) := by decide +kernel
theorem dJ0_charAt_5068e_4 : decode cJ0_charAt_5068e 4 = .ok (.ifCond .eq 12, 3) := by decide +kernel
theorem dJ0_charAt_5068e_7 : decode cJ0_charAt_5068e 7 = .ok (.aload_n 0, 1) := by decide +kernel
theorem dJ0_charAt_5068e_8 : decode cJ0_charAt_5068e 8 = .ok (.getfield 9, 3) := by decide +kernel
theorem dJ0_charAt_5068e_11 : decode cJ0_charAt_5068e 11 = .ok (.iload_n 1, 1) := by decide +kernel
theorem dJ0_charAt_5068e_12 : decode cJ0_charAt_5068e 12 = .ok (.invokestatic 495, 3) := by decide +kernel
theorem dJ0_charAt_5068e_15 : decode cJ0_charAt_5068e 15 = .ok (.ireturn, 1) := by decide +kernel
theorem dJ0_charAt_5068e_16 : decode cJ0_charAt_5068e 16 = .ok (.aload_n 0, 1) := by decide +kernel
theorem dJ0_charAt_5068e_17 : decode cJ0_charAt_5068e 17 = .ok (.getfield 9, 3) := by decide +kernel
theorem dJ0_charAt_5068e_20 : decode cJ0_charAt_5068e 20 = .ok (.iload_n 1, 1) := by decide +kernel
theorem dJ0_charAt_5068e_21 : decode cJ0_charAt_5068e 21 = .ok (.invokestatic 498, 3) := by decide +kernel
theorem dJ0_charAt_5068e_24 : decode cJ0_charAt_5068e 24 = .ok (.ireturn, 1) := by decide +kernel
theorem dJ0_coder_7d493_0 : decode cJ0_coder_7d493 0 = .ok (.getstatic 38, 3) := by decide +kernel
theorem dJ0_coder_7d493_3 : decode cJ0_coder_7d493 3 = .ok (.ifCond .eq 10, 3) := by decide +kernel
theorem dJ0_coder_7d493_6 : decode cJ0_coder_7d493 6 = .ok (.aload_n 0, 1) := by decide +kernel
theorem dJ0_coder_7d493_7 : decode cJ0_coder_7d493 7 = .ok (.getfield 15, 3) := by decide +kernel
theorem dJ0_coder_7d493_10 : decode cJ0_coder_7d493 10 = .ok (.goto 4, 3) := by decide +kernel
theorem dJ0_coder_7d493_13 : decode cJ0_coder_7d493 13 = .ok (.iconst 1, 1) := by decide +kernel
theorem dJ0_coder_7d493_14 : decode cJ0_coder_7d493 14 = .ok (.ireturn, 1) := by decide +kernel
theorem dJ0_isLatin1_aae02_0 : decode cJ0_isLatin1_aae02 0 = .ok (.getstatic 38, 3) := by decide +kernel
theorem dJ0_isLatin1_aae02_3 : decode cJ0_isLatin1_aae02 3 = .ok (.ifCond .eq 14, 3) := by decide +kernel
theorem dJ0_isLatin1_aae02_6 : decode cJ0_isLatin1_aae02 6 = .ok (.aload_n 0, 1) := by decide +kernel
theorem dJ0_isLatin1_aae02_7 : decode cJ0_isLatin1_aae02 7 = .ok (.getfield 15, 3) := by decide +kernel
theorem dJ0_isLatin1_aae02_10 : decode cJ0_isLatin1_aae02 10 = .ok (.ifCond .ne 7, 3) := by decide +kernel
theorem dJ0_isLatin1_aae02_13 : decode cJ0_isLatin1_aae02 13 = .ok (.iconst 1, 1) := by decide +kernel
theorem dJ0_isLatin1_aae02_14 : decode cJ0_isLatin1_aae02 14 = .ok (.goto 4, 3) := by decide +kernel
theorem dJ0_isLatin1_aae02_17 : decode cJ0_isLatin1_aae02 17 = .ok (.iconst 0, 1) := by decide +kernel
theorem dJ0_isLatin1_aae02_18 : decode cJ0_isLatin1_aae02 18 = .ok (.ireturn, 1) := by decide +kernel
theorem dJ0_checkIndex_df160_0 : decode cJ0_checkIndex_df160 0 = .ok (.iload_n 0, 1) := by decide +kernel
theorem dJ0_checkIndex_df160_1 : decode cJ0_checkIndex_df160 1 = .ok (.iload_n 1, 1) := by decide +kernel
theorem dJ0_checkIndex_df160_2 : decode cJ0_checkIndex_df160 2 = .ok (.getstatic 1053, 3) := by decide +kernel
theorem dJ0_checkIndex_df160_5 : decode cJ0_checkIndex_df160 5 = .ok (.invokestatic 1059, 3) := by decide +kernel
theorem dJ0_checkIndex_df160_8 : decode cJ0_checkIndex_df160 8 = .ok (.pop, 1) := by decide +kernel
theorem dJ0_checkIndex_df160_9 : decode cJ0_checkIndex_df160 9 = .ok (.return_, 1) := by decide +kernel
theorem dJ1_charAt_3b067_0 : decode cJ1_charAt_3b067 0 = .ok (.iload_n 1, 1) := by decide +kernel
theorem dJ1_charAt_3b067_1 : decode cJ1_charAt_3b067 1 = .ok (.aload_n 0, 1) := by decide +kernel
theorem dJ1_charAt_3b067_2 : decode cJ1_charAt_3b067 2 = .ok (.arraylength, 1) := by decide +kernel
theorem dJ1_charAt_3b067_3 : decode cJ1_charAt_3b067 3 = .ok (.invokestatic 9, 3) := by decide +kernel
theorem dJ1_charAt_3b067_6 : decode cJ1_charAt_3b067 6 = .ok (.aload_n 0, 1) := by decide +kernel
theorem dJ1_charAt_3b067_7 : decode cJ1_charAt_3b067 7 = .ok (.iload_n 1, 1) := by decide +kernel
theorem dJ1_charAt_3b067_8 : decode cJ1_charAt_3b067 8 = .ok (.baload, 1) := by decide +kernel
theorem dJ1_charAt_3b067_9 : decode cJ1_charAt_3b067 9 = .ok (.sipush 255, 3) := by decide +kernel
theorem dJ1_charAt_3b067_12 : decode cJ1_charAt_3b067 12 = .ok (.iand, 1) := by decide +kernel
theorem dJ1_charAt_3b067_13 : decode cJ1_charAt_3b067 13 = .ok (.i2c, 1) := by decide +kernel
theorem dJ1_charAt_3b067_14 : decode cJ1_charAt_3b067 14 = .ok (.ireturn, 1) := by decide +kernel
theorem dJ2_getChar_3b067_0 : decode cJ2_getChar_3b067 0 = .ok (.getstatic 44, 3) := by decide +kernel
theorem dJ2_getChar_3b067_3 : decode cJ2_getChar_3b067 3 = .ok (.ifCond .ne 25, 3) := by decide +kernel
theorem dJ2_getChar_3b067_6 : decode cJ2_getChar_3b067 6 = .ok (.iload_n 1, 1) := by decide +kernel
theorem dJ2_getChar_3b067_7 : decode cJ2_getChar_3b067 7 = .ok (.ifCond .lt 11, 3) := by decide +kernel
theorem dJ2_getChar_3b067_10 : decode cJ2_getChar_3b067 10 = .ok (.iload_n 1, 1) := by decide +kernel
theorem dJ2_getChar_3b067_11 : decode cJ2_getChar_3b067 11 = .ok (.aload_n 0, 1) := by decide +kernel
theorem dJ2_getChar_3b067_12 : decode cJ2_getChar_3b067 12 = .ok (.invokestatic 48, 3) := by decide +kernel
theorem dJ2_getChar_3b067_15 : decode cJ2_getChar_3b067 15 = .ok (.if_icmp .lt 13, 3) := by decide +kernel
theorem dJ2_getChar_3b067_18 : decode cJ2_getChar_3b067 18 = .ok (.new 52, 3) := by decide +kernel
theorem dJ2_getChar_3b067_21 : decode cJ2_getChar_3b067 21 = .ok (.dup, 1) := by decide +kernel
theorem dJ2_getChar_3b067_22 : decode cJ2_getChar_3b067 22 = .ok (.ldc 54, 2) := by decide +kernel
theorem dJ2_getChar_3b067_24 : decode cJ2_getChar_3b067 24 = .ok (.invokespecial 56, 3) := by decide +kernel
theorem dJ2_getChar_3b067_27 : decode cJ2_getChar_3b067 27 = .ok (.athrow, 1) := by decide +kernel
theorem dJ2_getChar_3b067_28 : decode cJ2_getChar_3b067 28 = .ok (.iload_n 1, 1) := by decide +kernel
theorem dJ2_getChar_3b067_29 : decode cJ2_getChar_3b067 29 = .ok (.iconst 1, 1) := by decide +kernel
theorem dJ2_getChar_3b067_30 : decode cJ2_getChar_3b067 30 = .ok (.ishl, 1) := by decide +kernel
theorem dJ2_getChar_3b067_31 : decode cJ2_getChar_3b067 31 = .ok (.istore_n 1, 1) := by decide +kernel
theorem dJ2_getChar_3b067_32 : decode cJ2_getChar_3b067 32 = .ok (.aload_n 0, 1) := by decide +kernel
theorem dJ2_getChar_3b067_33 : decode cJ2_getChar_3b067 33 = .ok (.iload_n 1, 1) := by decide +kernel
theorem dJ2_getChar_3b067_34 : decode cJ2_getChar_3b067 34 = .ok (.iinc 1 1, 3) := by decide +kernel
theorem dJ2_getChar_3b067_37 : decode cJ2_getChar_3b067 37 = .ok (.baload, 1) := by decide +kernel
theorem dJ2_getChar_3b067_38 : decode cJ2_getChar_3b067 38 = .ok (.sipush 255, 3) := by decide +kernel
theorem dJ2_getChar_3b067_41 : decode cJ2_getChar_3b067 41 = .ok (.iand, 1) := by decide +kernel
theorem dJ2_getChar_3b067_42 : decode cJ2_getChar_3b067 42 = .ok (.getstatic 59, 3) := by decide +kernel
theorem dJ2_getChar_3b067_45 : decode cJ2_getChar_3b067 45 = .ok (.ishl, 1) := by decide +kernel
theorem dJ2_getChar_3b067_46 : decode cJ2_getChar_3b067 46 = .ok (.aload_n 0, 1) := by decide +kernel
theorem dJ2_getChar_3b067_47 : decode cJ2_getChar_3b067 47 = .ok (.iload_n 1, 1) := by decide +kernel
theorem dJ2_getChar_3b067_48 : decode cJ2_getChar_3b067 48 = .ok (.baload, 1) := by decide +kernel
theorem dJ2_getChar_3b067_49 : decode cJ2_getChar_3b067 49 = .ok (.sipush 255, 3) := by decide +kernel
theorem dJ2_getChar_3b067_52 : decode cJ2_getChar_3b067 52 = .ok (.iand, 1) := by decide +kernel
theorem dJ2_getChar_3b067_53 : decode cJ2_getChar_3b067 53 = .ok (.getstatic 63, 3) := by decide +kernel
theorem dJ2_getChar_3b067_56 : decode cJ2_getChar_3b067 56 = .ok (.ishl, 1) := by decide +kernel
theorem dJ2_getChar_3b067_57 : decode cJ2_getChar_3b067 57 = .ok (.ior, 1) := by decide +kernel
theorem dJ2_getChar_3b067_58 : decode cJ2_getChar_3b067 58 = .ok (.i2c, 1) := by decide +kernel
theorem dJ2_getChar_3b067_59 : decode cJ2_getChar_3b067 59 = .ok (.ireturn, 1) := by decide +kernel
theorem dJ2_length_9d52b_0 : decode cJ2_length_9d52b 0 = .ok (.aload_n 0, 1) := by decide +kernel
theorem dJ2_length_9d52b_1 : decode cJ2_length_9d52b 1 = .ok (.arraylength, 1) := by decide +kernel
theorem dJ2_length_9d52b_2 : decode cJ2_length_9d52b 2 = .ok (.iconst 1, 1) := by decide +kernel
theorem dJ2_length_9d52b_3 : decode cJ2_length_9d52b 3 = .ok (.ishr, 1) := by decide +kernel
theorem dJ2_length_9d52b_4 : decode cJ2_length_9d52b 4 = .ok (.ireturn, 1) := by decide +kernel
theorem dJ2_charAt_3b067_0 : decode cJ2_charAt_3b067 0 = .ok (.iload_n 1, 1) := by decide +kernel
theorem dJ2_charAt_3b067_1 : decode cJ2_charAt_3b067 1 = .ok (.aload_n 0, 1) := by decide +kernel
theorem dJ2_charAt_3b067_2 : decode cJ2_charAt_3b067 2 = .ok (.invokestatic 67, 3) := by decide +kernel
theorem dJ2_charAt_3b067_5 : decode cJ2_charAt_3b067 5 = .ok (.aload_n 0, 1) := by decide +kernel
theorem dJ2_charAt_3b067_6 : decode cJ2_charAt_3b067 6 = .ok (.iload_n 1, 1) := by decide +kernel
theorem dJ2_charAt_3b067_7 : decode cJ2_charAt_3b067 7 = .ok (.invokestatic 71, 3) := by decide +kernel
theorem dJ2_charAt_3b067_10 : decode cJ2_charAt_3b067 10 = .ok (.ireturn, 1) := by decide +kernel
theorem dJ2_checkIndex_2214a_0 : decode cJ2_checkIndex_2214a 0 = .ok (.iload_n 0, 1) := by decide +kernel
theorem dJ2_checkIndex_2214a_1 : decode cJ2_checkIndex_2214a 1 = .ok (.aload_n 1, 1) := by decide +kernel
theorem dJ2_checkIndex_2214a_2 : decode cJ2_checkIndex_2214a 2 = .ok (.invokestatic 48, 3) := by decide +kernel
theorem dJ2_checkIndex_2214a_5 : decode cJ2_checkIndex_2214a 5 = .ok (.invokestatic 414, 3) := by decide +kernel
theorem dJ2_checkIndex_2214a_8 : decode cJ2_checkIndex_2214a 8 = .ok (.return_, 1) := by decide +kernel
theorem dJ3_checkIndex_8e157_0 : decode cJ3_checkIndex_8e157 0 = .ok (.iload_n 0, 1) := by decide +kernel
theorem dJ3_checkIndex_8e157_1 : decode cJ3_checkIndex_8e157 1 = .ok (.ifCond .lt 8, 3) := by decide +kernel
theorem dJ3_checkIndex_8e157_4 : decode cJ3_checkIndex_8e157 4 = .ok (.iload_n 0, 1) := by decide +kernel
theorem dJ3_checkIndex_8e157_5 : decode cJ3_checkIndex_8e157 5 = .ok (.iload_n 1, 1) := by decide +kernel
theorem dJ3_checkIndex_8e157_6 : decode cJ3_checkIndex_8e157 6 = .ok (.if_icmp .lt 10, 3) := by decide +kernel
theorem dJ3_checkIndex_8e157_9 : decode cJ3_checkIndex_8e157 9 = .ok (.aload_n 2, 1) := by decide +kernel
theorem dJ3_checkIndex_8e157_10 : decode cJ3_checkIndex_8e157 10 = .ok (.iload_n 0, 1) := by decide +kernel
theorem dJ3_checkIndex_8e157_11 : decode cJ3_checkIndex_8e157 11 = .ok (.iload_n 1, 1) := by decide +kernel
theorem dJ3_checkIndex_8e157_12 : decode cJ3_checkIndex_8e157 12 = .ok (.invokestatic 95, 3) := by decide +kernel
theorem dJ3_checkIndex_8e157_15 : decode cJ3_checkIndex_8e157 15 = .ok (.athrow, 1) := by decide +kernel
theorem dJ3_checkIndex_8e157_16 : decode cJ3_checkIndex_8e157 16 = .ok (.iload_n 0, 1) := by decide +kernel
theorem dJ3_checkIndex_8e157_17 : decode cJ3_checkIndex_8e157 17 = .ok (.ireturn, 1) := by decide +kernel

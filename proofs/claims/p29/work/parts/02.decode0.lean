theorem dX0_init_0 : decode cX0_init 0 = .ok (.aload_n 0, 1) := by decide +kernel
theorem dX0_init_1 : decode cX0_init 1 = .ok (.invokespecial 3, 3) := by decide +kernel
theorem dX0_init_4 : decode cX0_init 4 = .ok (.aload_n 0, 1) := by decide +kernel
theorem dX0_init_5 : decode cX0_init 5 = .ok (.bipush 60, 2) := by decide +kernel
theorem dX0_init_7 : decode cX0_init 7 = .ok (.newarray .int, 2) := by decide +kernel
theorem dX0_init_9 : decode cX0_init 9 = .ok (.putfield 9, 3) := by decide +kernel
theorem dX0_init_12 : decode cX0_init 12 = .ok (.aload_n 0, 1) := by decide +kernel
theorem dX0_init_13 : decode cX0_init 13 = .ok (.iconst 4, 1) := by decide +kernel
theorem dX0_init_14 : decode cX0_init 14 = .ok (.newarray .int, 2) := by decide +kernel
theorem dX0_init_16 : decode cX0_init 16 = .ok (.putfield 15, 3) := by decide +kernel
theorem dX0_init_19 : decode cX0_init 19 = .ok (.return_, 1) := by decide +kernel
theorem dX1_init_0 : decode cX1_init 0 = .ok (.aload_n 0, 1) := by decide +kernel
theorem dX1_init_1 : decode cX1_init 1 = .ok (.invokespecial 3, 3) := by decide +kernel
theorem dX1_init_4 : decode cX1_init 4 = .ok (.aload_n 0, 1) := by decide +kernel
theorem dX1_init_5 : decode cX1_init 5 = .ok (.bipush 8, 2) := by decide +kernel
theorem dX1_init_7 : decode cX1_init 7 = .ok (.newarray .int, 2) := by decide +kernel
theorem dX1_init_9 : decode cX1_init 9 = .ok (.putfield 9, 3) := by decide +kernel
theorem dX1_init_12 : decode cX1_init 12 = .ok (.aload_n 0, 1) := by decide +kernel
theorem dX1_init_13 : decode cX1_init 13 = .ok (.bipush 8, 2) := by decide +kernel
theorem dX1_init_15 : decode cX1_init 15 = .ok (.newarray .int, 2) := by decide +kernel
theorem dX1_init_17 : decode cX1_init 17 = .ok (.putfield 15, 3) := by decide +kernel
theorem dX1_init_20 : decode cX1_init 20 = .ok (.aload_n 0, 1) := by decide +kernel
theorem dX1_init_21 : decode cX1_init 21 = .ok (.bipush 8, 2) := by decide +kernel
theorem dX1_init_23 : decode cX1_init 23 = .ok (.newarray .int, 2) := by decide +kernel
theorem dX1_init_25 : decode cX1_init 25 = .ok (.putfield 18, 3) := by decide +kernel
theorem dX1_init_28 : decode cX1_init 28 = .ok (.return_, 1) := by decide +kernel
theorem dX1_copyFrom_0 : decode cX1_copyFrom 0 = .ok (.aload_n 0, 1) := by decide +kernel
theorem dX1_copyFrom_1 : decode cX1_copyFrom 1 = .ok (.aload_n 1, 1) := by decide +kernel
theorem dX1_copyFrom_2 : decode cX1_copyFrom 2 = .ok (.getfield 21, 3) := by decide +kernel
theorem dX1_copyFrom_5 : decode cX1_copyFrom 5 = .ok (.putfield 21, 3) := by decide +kernel
theorem dX1_copyFrom_8 : decode cX1_copyFrom 8 = .ok (.aload_n 1, 1) := by decide +kernel
theorem dX1_copyFrom_9 : decode cX1_copyFrom 9 = .ok (.getfield 9, 3) := by decide +kernel
theorem dX1_copyFrom_12 : decode cX1_copyFrom 12 = .ok (.iconst 0, 1) := by decide +kernel
theorem dX1_copyFrom_13 : decode cX1_copyFrom 13 = .ok (.aload_n 0, 1) := by decide +kernel
theorem dX1_copyFrom_14 : decode cX1_copyFrom 14 = .ok (.getfield 9, 3) := by decide +kernel
theorem dX1_copyFrom_17 : decode cX1_copyFrom 17 = .ok (.iconst 0, 1) := by decide +kernel
theorem dX1_copyFrom_18 : decode cX1_copyFrom 18 = .ok (.bipush 8, 2) := by decide +kernel
theorem dX1_copyFrom_20 : decode cX1_copyFrom 20 = .ok (.invokestatic 25, 3) := by decide +kernel
theorem dX1_copyFrom_23 : decode cX1_copyFrom 23 = .ok (.aload_n 1, 1) := by decide +kernel
theorem dX1_copyFrom_24 : decode cX1_copyFrom 24 = .ok (.getfield 15, 3) := by decide +kernel
theorem dX1_copyFrom_27 : decode cX1_copyFrom 27 = .ok (.iconst 0, 1) := by decide +kernel
theorem dX1_copyFrom_28 : decode cX1_copyFrom 28 = .ok (.aload_n 0, 1) := by decide +kernel
theorem dX1_copyFrom_29 : decode cX1_copyFrom 29 = .ok (.getfield 15, 3) := by decide +kernel
theorem dX1_copyFrom_32 : decode cX1_copyFrom 32 = .ok (.iconst 0, 1) := by decide +kernel
theorem dX1_copyFrom_33 : decode cX1_copyFrom 33 = .ok (.bipush 8, 2) := by decide +kernel
theorem dX1_copyFrom_35 : decode cX1_copyFrom 35 = .ok (.invokestatic 25, 3) := by decide +kernel
theorem dX1_copyFrom_38 : decode cX1_copyFrom 38 = .ok (.aload_n 1, 1) := by decide +kernel
theorem dX1_copyFrom_39 : decode cX1_copyFrom 39 = .ok (.getfield 18, 3) := by decide +kernel
theorem dX1_copyFrom_42 : decode cX1_copyFrom 42 = .ok (.iconst 0, 1) := by decide +kernel
theorem dX1_copyFrom_43 : decode cX1_copyFrom 43 = .ok (.aload_n 0, 1) := by decide +kernel
theorem dX1_copyFrom_44 : decode cX1_copyFrom 44 = .ok (.getfield 18, 3) := by decide +kernel
theorem dX1_copyFrom_47 : decode cX1_copyFrom 47 = .ok (.iconst 0, 1) := by decide +kernel
theorem dX1_copyFrom_48 : decode cX1_copyFrom 48 = .ok (.bipush 8, 2) := by decide +kernel
theorem dX1_copyFrom_50 : decode cX1_copyFrom 50 = .ok (.invokestatic 25, 3) := by decide +kernel
theorem dX1_copyFrom_53 : decode cX1_copyFrom 53 = .ok (.return_, 1) := by decide +kernel
theorem dX1_append_0 : decode cX1_append 0 = .ok (.aload_n 0, 1) := by decide +kernel
theorem dX1_append_1 : decode cX1_append 1 = .ok (.getfield 21, 3) := by decide +kernel
theorem dX1_append_4 : decode cX1_append 4 = .ok (.bipush 8, 2) := by decide +kernel
theorem dX1_append_6 : decode cX1_append 6 = .ok (.if_icmp .ge 43, 3) := by decide +kernel
theorem dX1_append_9 : decode cX1_append 9 = .ok (.aload_n 0, 1) := by decide +kernel
theorem dX1_append_10 : decode cX1_append 10 = .ok (.getfield 9, 3) := by decide +kernel
theorem dX1_append_13 : decode cX1_append 13 = .ok (.aload_n 0, 1) := by decide +kernel
theorem dX1_append_14 : decode cX1_append 14 = .ok (.getfield 21, 3) := by decide +kernel
theorem dX1_append_17 : decode cX1_append 17 = .ok (.iload_n 1, 1) := by decide +kernel
theorem dX1_append_18 : decode cX1_append 18 = .ok (.iastore, 1) := by decide +kernel
theorem dX1_append_19 : decode cX1_append 19 = .ok (.aload_n 0, 1) := by decide +kernel
theorem dX1_append_20 : decode cX1_append 20 = .ok (.getfield 15, 3) := by decide +kernel
theorem dX1_append_23 : decode cX1_append 23 = .ok (.aload_n 0, 1) := by decide +kernel
theorem dX1_append_24 : decode cX1_append 24 = .ok (.getfield 21, 3) := by decide +kernel
theorem dX1_append_27 : decode cX1_append 27 = .ok (.iload_n 2, 1) := by decide +kernel
theorem dX1_append_28 : decode cX1_append 28 = .ok (.iastore, 1) := by decide +kernel
theorem dX1_append_29 : decode cX1_append 29 = .ok (.aload_n 0, 1) := by decide +kernel
theorem dX1_append_30 : decode cX1_append 30 = .ok (.getfield 18, 3) := by decide +kernel
theorem dX1_append_33 : decode cX1_append 33 = .ok (.aload_n 0, 1) := by decide +kernel
theorem dX1_append_34 : decode cX1_append 34 = .ok (.getfield 21, 3) := by decide +kernel
theorem dX1_append_37 : decode cX1_append 37 = .ok (.iload_n 3, 1) := by decide +kernel
theorem dX1_append_38 : decode cX1_append 38 = .ok (.iastore, 1) := by decide +kernel
theorem dX1_append_39 : decode cX1_append 39 = .ok (.aload_n 0, 1) := by decide +kernel
theorem dX1_append_40 : decode cX1_append 40 = .ok (.dup, 1) := by decide +kernel
theorem dX1_append_41 : decode cX1_append 41 = .ok (.getfield 21, 3) := by decide +kernel
theorem dX1_append_44 : decode cX1_append 44 = .ok (.iconst 1, 1) := by decide +kernel
theorem dX1_append_45 : decode cX1_append 45 = .ok (.iadd, 1) := by decide +kernel
theorem dX1_append_46 : decode cX1_append 46 = .ok (.putfield 21, 3) := by decide +kernel
theorem dX1_append_49 : decode cX1_append 49 = .ok (.return_, 1) := by decide +kernel
theorem dX1_shorten_0 : decode cX1_shorten 0 = .ok (.iconst 0, 1) := by decide +kernel
theorem dX1_shorten_1 : decode cX1_shorten 1 = .ok (.aload_n 0, 1) := by decide +kernel
theorem dX1_shorten_2 : decode cX1_shorten 2 = .ok (.getfield 21, 3) := by decide +kernel
theorem dX1_shorten_5 : decode cX1_shorten 5 = .ok (.iload_n 1, 1) := by decide +kernel
theorem dX1_shorten_6 : decode cX1_shorten 6 = .ok (.isub, 1) := by decide +kernel
theorem dX1_shorten_7 : decode cX1_shorten 7 = .ok (.invokestatic 31, 3) := by decide +kernel
theorem dX1_shorten_10 : decode cX1_shorten 10 = .ok (.istore_n 2, 1) := by decide +kernel
theorem dX1_shorten_11 : decode cX1_shorten 11 = .ok (.iconst 0, 1) := by decide +kernel
theorem dX1_shorten_12 : decode cX1_shorten 12 = .ok (.istore_n 3, 1) := by decide +kernel
theorem dX1_shorten_13 : decode cX1_shorten 13 = .ok (.iload_n 3, 1) := by decide +kernel
theorem dX1_shorten_14 : decode cX1_shorten 14 = .ok (.iload_n 2, 1) := by decide +kernel
theorem dX1_shorten_15 : decode cX1_shorten 15 = .ok (.if_icmp .ge 51, 3) := by decide +kernel
theorem dX1_shorten_18 : decode cX1_shorten 18 = .ok (.aload_n 0, 1) := by decide +kernel
theorem dX1_shorten_19 : decode cX1_shorten 19 = .ok (.getfield 9, 3) := by decide +kernel
theorem dX1_shorten_22 : decode cX1_shorten 22 = .ok (.iload_n 3, 1) := by decide +kernel
theorem dX1_shorten_23 : decode cX1_shorten 23 = .ok (.aload_n 0, 1) := by decide +kernel
theorem dX1_shorten_24 : decode cX1_shorten 24 = .ok (.getfield 9, 3) := by decide +kernel
theorem dX1_shorten_27 : decode cX1_shorten 27 = .ok (.iload_n 3, 1) := by decide +kernel
theorem dX1_shorten_28 : decode cX1_shorten 28 = .ok (.iload_n 1, 1) := by decide +kernel
theorem dX1_shorten_29 : decode cX1_shorten 29 = .ok (.iadd, 1) := by decide +kernel
theorem dX1_shorten_30 : decode cX1_shorten 30 = .ok (.iaload, 1) := by decide +kernel
theorem dX1_shorten_31 : decode cX1_shorten 31 = .ok (.iastore, 1) := by decide +kernel
theorem dX1_shorten_32 : decode cX1_shorten 32 = .ok (.aload_n 0, 1) := by decide +kernel
theorem dX1_shorten_33 : decode cX1_shorten 33 = .ok (.getfield 15, 3) := by decide +kernel
theorem dX1_shorten_36 : decode cX1_shorten 36 = .ok (.iload_n 3, 1) := by decide +kernel
theorem dX1_shorten_37 : decode cX1_shorten 37 = .ok (.aload_n 0, 1) := by decide +kernel
theorem dX1_shorten_38 : decode cX1_shorten 38 = .ok (.getfield 15, 3) := by decide +kernel
theorem dX1_shorten_41 : decode cX1_shorten 41 = .ok (.iload_n 3, 1) := by decide +kernel
theorem dX1_shorten_42 : decode cX1_shorten 42 = .ok (.iload_n 1, 1) := by decide +kernel
theorem dX1_shorten_43 : decode cX1_shorten 43 = .ok (.iadd, 1) := by decide +kernel
theorem dX1_shorten_44 : decode cX1_shorten 44 = .ok (.iaload, 1) := by decide +kernel
theorem dX1_shorten_45 : decode cX1_shorten 45 = .ok (.iastore, 1) := by decide +kernel
theorem dX1_shorten_46 : decode cX1_shorten 46 = .ok (.aload_n 0, 1) := by decide +kernel
theorem dX1_shorten_47 : decode cX1_shorten 47 = .ok (.getfield 18, 3) := by decide +kernel
theorem dX1_shorten_50 : decode cX1_shorten 50 = .ok (.iload_n 3, 1) := by decide +kernel
theorem dX1_shorten_51 : decode cX1_shorten 51 = .ok (.aload_n 0, 1) := by decide +kernel
theorem dX1_shorten_52 : decode cX1_shorten 52 = .ok (.getfield 18, 3) := by decide +kernel
theorem dX1_shorten_55 : decode cX1_shorten 55 = .ok (.iload_n 3, 1) := by decide +kernel
theorem dX1_shorten_56 : decode cX1_shorten 56 = .ok (.iload_n 1, 1) := by decide +kernel
theorem dX1_shorten_57 : decode cX1_shorten 57 = .ok (.iadd, 1) := by decide +kernel
theorem dX1_shorten_58 : decode cX1_shorten 58 = .ok (.iaload, 1) := by decide +kernel
theorem dX1_shorten_59 : decode cX1_shorten 59 = .ok (.iastore, 1) := by decide +kernel
theorem dX1_shorten_60 : decode cX1_shorten 60 = .ok (.iinc 3 1, 3) := by decide +kernel
theorem dX1_shorten_63 : decode cX1_shorten 63 = .ok (.goto (-50), 3) := by decide +kernel
theorem dX1_shorten_66 : decode cX1_shorten 66 = .ok (.aload_n 0, 1) := by decide +kernel
theorem dX1_shorten_67 : decode cX1_shorten 67 = .ok (.iload_n 2, 1) := by decide +kernel
theorem dX1_shorten_68 : decode cX1_shorten 68 = .ok (.putfield 21, 3) := by decide +kernel
theorem dX1_shorten_71 : decode cX1_shorten 71 = .ok (.return_, 1) := by decide +kernel
theorem dX1_latestOf_0 : decode cX1_latestOf 0 = .ok (.aload_n 0, 1) := by decide +kernel
theorem dX1_latestOf_1 : decode cX1_latestOf 1 = .ok (.getfield 21, 3) := by decide +kernel
theorem dX1_latestOf_4 : decode cX1_latestOf 4 = .ok (.iconst 1, 1) := by decide +kernel
theorem dX1_latestOf_5 : decode cX1_latestOf 5 = .ok (.isub, 1) := by decide +kernel
theorem dX1_latestOf_6 : decode cX1_latestOf 6 = .ok (.istore_n 2, 1) := by decide +kernel
theorem dX1_latestOf_7 : decode cX1_latestOf 7 = .ok (.iload_n 2, 1) := by decide +kernel
theorem dX1_latestOf_8 : decode cX1_latestOf 8 = .ok (.ifCond .lt 21, 3) := by decide +kernel
theorem dX1_latestOf_11 : decode cX1_latestOf 11 = .ok (.aload_n 0, 1) := by decide +kernel
theorem dX1_latestOf_12 : decode cX1_latestOf 12 = .ok (.getfield 9, 3) := by decide +kernel
theorem dX1_latestOf_15 : decode cX1_latestOf 15 = .ok (.iload_n 2, 1) := by decide +kernel
theorem dX1_latestOf_16 : decode cX1_latestOf 16 = .ok (.iaload, 1) := by decide +kernel
theorem dX1_latestOf_17 : decode cX1_latestOf 17 = .ok (.iload_n 1, 1) := by decide +kernel
theorem dX1_latestOf_18 : decode cX1_latestOf 18 = .ok (.if_icmp .ne 5, 3) := by decide +kernel
theorem dX1_latestOf_21 : decode cX1_latestOf 21 = .ok (.iload_n 2, 1) := by decide +kernel
theorem dX1_latestOf_22 : decode cX1_latestOf 22 = .ok (.ireturn, 1) := by decide +kernel
theorem dX1_latestOf_23 : decode cX1_latestOf 23 = .ok (.iinc 2 (-1), 3) := by decide +kernel
theorem dX1_latestOf_26 : decode cX1_latestOf 26 = .ok (.goto (-19), 3) := by decide +kernel
theorem dX1_latestOf_29 : decode cX1_latestOf 29 = .ok (.iconst (-1), 1) := by decide +kernel
theorem dX1_latestOf_30 : decode cX1_latestOf 30 = .ok (.ireturn, 1) := by decide +kernel
theorem dX2_ofOld_0 : decode cX2_ofOld 0 = .ok (.bipush 10, 2) := by decide +kernel
theorem dX2_ofOld_2 : decode cX2_ofOld 2 = .ok (.iload_n 0, 1) := by decide +kernel
theorem dX2_ofOld_3 : decode cX2_ofOld 3 = .ok (.imul, 1) := by decide +kernel
theorem dX2_ofOld_4 : decode cX2_ofOld 4 = .ok (.iload_n 1, 1) := by decide +kernel
theorem dX2_ofOld_5 : decode cX2_ofOld 5 = .ok (.iadd, 1) := by decide +kernel
theorem dX2_ofOld_6 : decode cX2_ofOld 6 = .ok (.iload_n 2, 1) := by decide +kernel
theorem dX2_ofOld_7 : decode cX2_ofOld 7 = .ok (.invokestatic 11, 3) := by decide +kernel
theorem dX2_ofOld_10 : decode cX2_ofOld 10 = .ok (.ireturn, 1) := by decide +kernel
theorem dX2_ofNew_0 : decode cX2_ofNew 0 = .ok (.iconst 4, 1) := by decide +kernel
theorem dX2_ofNew_1 : decode cX2_ofNew 1 = .ok (.iload_n 0, 1) := by decide +kernel
theorem dX2_ofNew_2 : decode cX2_ofNew 2 = .ok (.imul, 1) := by decide +kernel
theorem dX2_ofNew_3 : decode cX2_ofNew 3 = .ok (.iload_n 1, 1) := by decide +kernel
theorem dX2_ofNew_4 : decode cX2_ofNew 4 = .ok (.iadd, 1) := by decide +kernel
theorem dX2_ofNew_5 : decode cX2_ofNew 5 = .ok (.ireturn, 1) := by decide +kernel
theorem dX2_isStrange_0 : decode cX2_isStrange 0 = .ok (.iload_n 0, 1) := by decide +kernel
theorem dX2_isStrange_1 : decode cX2_isStrange 1 = .ok (.iconst (-1), 1) := by decide +kernel
theorem dX2_isStrange_2 : decode cX2_isStrange 2 = .ok (.if_icmp .eq 14, 3) := by decide +kernel
theorem dX2_isStrange_5 : decode cX2_isStrange 5 = .ok (.iload_n 0, 1) := by decide +kernel
theorem dX2_isStrange_6 : decode cX2_isStrange 6 = .ok (.iconst 4, 1) := by decide +kernel
theorem dX2_isStrange_7 : decode cX2_isStrange 7 = .ok (.irem, 1) := by decide +kernel
theorem dX2_isStrange_8 : decode cX2_isStrange 8 = .ok (.iconst 1, 1) := by decide +kernel
theorem dX2_isStrange_9 : decode cX2_isStrange 9 = .ok (.if_icmp .le 7, 3) := by decide +kernel
theorem dX2_isStrange_12 : decode cX2_isStrange 12 = .ok (.iconst 1, 1) := by decide +kernel
theorem dX2_isStrange_13 : decode cX2_isStrange 13 = .ok (.goto 4, 3) := by decide +kernel
theorem dX2_isStrange_16 : decode cX2_isStrange 16 = .ok (.iconst 0, 1) := by decide +kernel
theorem dX2_isStrange_17 : decode cX2_isStrange 17 = .ok (.ireturn, 1) := by decide +kernel
theorem dX2_madeOver_0 : decode cX2_madeOver 0 = .ok (.iload_n 1, 1) := by decide +kernel
theorem dX2_madeOver_1 : decode cX2_madeOver 1 = .ok (.iconst 1, 1) := by decide +kernel
theorem dX2_madeOver_2 : decode cX2_madeOver 2 = .ok (.if_icmp .eq 8, 3) := by decide +kernel
theorem dX2_madeOver_5 : decode cX2_madeOver 5 = .ok (.iload_n 0, 1) := by decide +kernel
theorem dX2_madeOver_6 : decode cX2_madeOver 6 = .ok (.iconst (-1), 1) := by decide +kernel
theorem dX2_madeOver_7 : decode cX2_madeOver 7 = .ok (.if_icmp .ne 5, 3) := by decide +kernel
theorem dX2_madeOver_10 : decode cX2_madeOver 10 = .ok (.iload_n 0, 1) := by decide +kernel
theorem dX2_madeOver_11 : decode cX2_madeOver 11 = .ok (.ireturn, 1) := by decide +kernel
theorem dX2_madeOver_12 : decode cX2_madeOver 12 = .ok (.iload_n 0, 1) := by decide +kernel
theorem dX2_madeOver_13 : decode cX2_madeOver 13 = .ok (.iconst 4, 1) := by decide +kernel
theorem dX2_madeOver_14 : decode cX2_madeOver 14 = .ok (.irem, 1) := by decide +kernel
theorem dX2_madeOver_15 : decode cX2_madeOver 15 = .ok (.istore_n 2, 1) := by decide +kernel
theorem dX2_madeOver_16 : decode cX2_madeOver 16 = .ok (.iload_n 2, 1) := by decide +kernel
theorem dX2_madeOver_17 : decode cX2_madeOver 17 = .ok (.iconst 1, 1) := by decide +kernel
theorem dX2_madeOver_18 : decode cX2_madeOver 18 = .ok (.if_icmp .le 11, 3) := by decide +kernel
theorem dX2_madeOver_21 : decode cX2_madeOver 21 = .ok (.iload_n 0, 1) := by decide +kernel
theorem dX2_madeOver_22 : decode cX2_madeOver 22 = .ok (.iload_n 2, 1) := by decide +kernel
theorem dX2_madeOver_23 : decode cX2_madeOver 23 = .ok (.isub, 1) := by decide +kernel
theorem dX2_madeOver_24 : decode cX2_madeOver 24 = .ok (.iconst 1, 1) := by decide +kernel
theorem dX2_madeOver_25 : decode cX2_madeOver 25 = .ok (.iadd, 1) := by decide +kernel
theorem dX2_madeOver_26 : decode cX2_madeOver 26 = .ok (.goto 4, 3) := by decide +kernel
theorem dX2_madeOver_29 : decode cX2_madeOver 29 = .ok (.iload_n 0, 1) := by decide +kernel
theorem dX2_madeOver_30 : decode cX2_madeOver 30 = .ok (.ireturn, 1) := by decide +kernel
theorem dX2_number_0 : decode cX2_number 0 = .ok (.iload_n 0, 1) := by decide +kernel
theorem dX2_number_1 : decode cX2_number 1 = .ok (.iconst 4, 1) := by decide +kernel
theorem dX2_number_2 : decode cX2_number 2 = .ok (.idiv, 1) := by decide +kernel
theorem dX2_number_3 : decode cX2_number 3 = .ok (.istore_n 3, 1) := by decide +kernel
theorem dX2_number_4 : decode cX2_number 4 = .ok (.iload_n 0, 1) := by decide +kernel
theorem dX2_number_5 : decode cX2_number 5 = .ok (.iconst 4, 1) := by decide +kernel
theorem dX2_number_6 : decode cX2_number 6 = .ok (.irem, 1) := by decide +kernel
theorem dX2_number_7 : decode cX2_number 7 = .ok (.istore 4, 2) := by decide +kernel
theorem dX2_number_9 : decode cX2_number 9 = .ok (.iload_n 1, 1) := by decide +kernel
theorem dX2_number_10 : decode cX2_number 10 = .ok (.iconst 1, 1) := by decide +kernel
theorem dX2_number_11 : decode cX2_number 11 = .ok (.if_icmp .ne 14, 3) := by decide +kernel
theorem dX2_number_14 : decode cX2_number 14 = .ok (.iload_n 2, 1) := by decide +kernel
theorem dX2_number_15 : decode cX2_number 15 = .ok (.ifCond .ne 7, 3) := by decide +kernel
theorem dX2_number_18 : decode cX2_number 18 = .ok (.iload_n 3, 1) := by decide +kernel
theorem dX2_number_19 : decode cX2_number 19 = .ok (.goto 5, 3) := by decide +kernel
theorem dX2_number_22 : decode cX2_number 22 = .ok (.iload 4, 2) := by decide +kernel
theorem dX2_number_24 : decode cX2_number 24 = .ok (.ireturn, 1) := by decide +kernel
theorem dX2_number_25 : decode cX2_number 25 = .ok (.iload_n 2, 1) := by decide +kernel
theorem dX2_number_26 : decode cX2_number 26 = .ok (.iconst 2, 1) := by decide +kernel
theorem dX2_number_27 : decode cX2_number 27 = .ok (.if_icmp .ne 6, 3) := by decide +kernel
theorem dX2_number_30 : decode cX2_number 30 = .ok (.iload 4, 2) := by decide +kernel
theorem dX2_number_32 : decode cX2_number 32 = .ok (.ireturn, 1) := by decide +kernel
theorem dX2_number_33 : decode cX2_number 33 = .ok (.iload_n 2, 1) := by decide +kernel
theorem dX2_number_34 : decode cX2_number 34 = .ok (.ifCond .ne 10, 3) := by decide +kernel
theorem dX2_number_37 : decode cX2_number 37 = .ok (.iload_n 3, 1) := by decide +kernel
theorem dX2_number_38 : decode cX2_number 38 = .ok (.bipush 10, 2) := by decide +kernel
theorem dX2_number_40 : decode cX2_number 40 = .ok (.idiv, 1) := by decide +kernel
theorem dX2_number_41 : decode cX2_number 41 = .ok (.goto 7, 3) := by decide +kernel
theorem dX2_number_44 : decode cX2_number 44 = .ok (.iload_n 3, 1) := by decide +kernel
theorem dX2_number_45 : decode cX2_number 45 = .ok (.bipush 10, 2) := by decide +kernel
theorem dX2_number_47 : decode cX2_number 47 = .ok (.irem, 1) := by decide +kernel
theorem dX2_number_48 : decode cX2_number 48 = .ok (.ireturn, 1) := by decide +kernel
theorem dX3_init_0 : decode cX3_init 0 = .ok (.aload_n 0, 1) := by decide +kernel
theorem dX3_init_1 : decode cX3_init 1 = .ok (.invokespecial 3, 3) := by decide +kernel
theorem dX3_init_4 : decode cX3_init 4 = .ok (.aload_n 0, 1) := by decide +kernel
theorem dX3_init_5 : decode cX3_init 5 = .ok (.bipush 31, 2) := by decide +kernel
theorem dX3_init_7 : decode cX3_init 7 = .ok (.newarray .int, 2) := by decide +kernel
theorem dX3_init_9 : decode cX3_init 9 = .ok (.putfield 9, 3) := by decide +kernel
theorem dX3_init_12 : decode cX3_init 12 = .ok (.aload_n 0, 1) := by decide +kernel
theorem dX3_init_13 : decode cX3_init 13 = .ok (.bipush 31, 2) := by decide +kernel
theorem dX3_init_15 : decode cX3_init 15 = .ok (.newarray .int, 2) := by decide +kernel
theorem dX3_init_17 : decode cX3_init 17 = .ok (.putfield 15, 3) := by decide +kernel
theorem dX3_init_20 : decode cX3_init 20 = .ok (.aload_n 0, 1) := by decide +kernel
theorem dX3_init_21 : decode cX3_init 21 = .ok (.iload_n 1, 1) := by decide +kernel
theorem dX3_init_22 : decode cX3_init 22 = .ok (.putfield 18, 3) := by decide +kernel
theorem dX3_init_25 : decode cX3_init 25 = .ok (.aload_n 0, 1) := by decide +kernel
theorem dX3_init_26 : decode cX3_init 26 = .ok (.invokevirtual 22, 3) := by decide +kernel
theorem dX3_init_29 : decode cX3_init 29 = .ok (.return_, 1) := by decide +kernel
theorem dX3_clear_0 : decode cX3_clear 0 = .ok (.iconst 0, 1) := by decide +kernel
theorem dX3_clear_1 : decode cX3_clear 1 = .ok (.istore_n 1, 1) := by decide +kernel
theorem dX3_clear_2 : decode cX3_clear 2 = .ok (.iload_n 1, 1) := by decide +kernel
theorem dX3_clear_3 : decode cX3_clear 3 = .ok (.bipush 31, 2) := by decide +kernel
theorem dX3_clear_5 : decode cX3_clear 5 = .ok (.if_icmp .ge 23, 3) := by decide +kernel
theorem dX3_clear_8 : decode cX3_clear 8 = .ok (.aload_n 0, 1) := by decide +kernel
theorem dX3_clear_9 : decode cX3_clear 9 = .ok (.getfield 9, 3) := by decide +kernel
theorem dX3_clear_12 : decode cX3_clear 12 = .ok (.iload_n 1, 1) := by decide +kernel
theorem dX3_clear_13 : decode cX3_clear 13 = .ok (.iconst 0, 1) := by decide +kernel
theorem dX3_clear_14 : decode cX3_clear 14 = .ok (.iastore, 1) := by decide +kernel
theorem dX3_clear_15 : decode cX3_clear 15 = .ok (.aload_n 0, 1) := by decide +kernel
theorem dX3_clear_16 : decode cX3_clear 16 = .ok (.getfield 15, 3) := by decide +kernel
theorem dX3_clear_19 : decode cX3_clear 19 = .ok (.iload_n 1, 1) := by decide +kernel
theorem dX3_clear_20 : decode cX3_clear 20 = .ok (.iconst (-1), 1) := by decide +kernel
theorem dX3_clear_21 : decode cX3_clear 21 = .ok (.iastore, 1) := by decide +kernel
theorem dX3_clear_22 : decode cX3_clear 22 = .ok (.iinc 1 1, 3) := by decide +kernel
theorem dX3_clear_25 : decode cX3_clear 25 = .ok (.goto (-23), 3) := by decide +kernel
theorem dX3_clear_28 : decode cX3_clear 28 = .ok (.return_, 1) := by decide +kernel
theorem dX3_copyFrom_0 : decode cX3_copyFrom 0 = .ok (.aload_n 1, 1) := by decide +kernel
theorem dX3_copyFrom_1 : decode cX3_copyFrom 1 = .ok (.getfield 9, 3) := by decide +kernel
theorem dX3_copyFrom_4 : decode cX3_copyFrom 4 = .ok (.iconst 0, 1) := by decide +kernel
theorem dX3_copyFrom_5 : decode cX3_copyFrom 5 = .ok (.aload_n 0, 1) := by decide +kernel
theorem dX3_copyFrom_6 : decode cX3_copyFrom 6 = .ok (.getfield 9, 3) := by decide +kernel
theorem dX3_copyFrom_9 : decode cX3_copyFrom 9 = .ok (.iconst 0, 1) := by decide +kernel
theorem dX3_copyFrom_10 : decode cX3_copyFrom 10 = .ok (.bipush 31, 2) := by decide +kernel
theorem dX3_copyFrom_12 : decode cX3_copyFrom 12 = .ok (.invokestatic 25, 3) := by decide +kernel
theorem dX3_copyFrom_15 : decode cX3_copyFrom 15 = .ok (.aload_n 1, 1) := by decide +kernel
theorem dX3_copyFrom_16 : decode cX3_copyFrom 16 = .ok (.getfield 15, 3) := by decide +kernel
theorem dX3_copyFrom_19 : decode cX3_copyFrom 19 = .ok (.iconst 0, 1) := by decide +kernel
theorem dX3_copyFrom_20 : decode cX3_copyFrom 20 = .ok (.aload_n 0, 1) := by decide +kernel
theorem dX3_copyFrom_21 : decode cX3_copyFrom 21 = .ok (.getfield 15, 3) := by decide +kernel
theorem dX3_copyFrom_24 : decode cX3_copyFrom 24 = .ok (.iconst 0, 1) := by decide +kernel
theorem dX3_copyFrom_25 : decode cX3_copyFrom 25 = .ok (.bipush 31, 2) := by decide +kernel
theorem dX3_copyFrom_27 : decode cX3_copyFrom 27 = .ok (.invokestatic 25, 3) := by decide +kernel
theorem dX3_copyFrom_30 : decode cX3_copyFrom 30 = .ok (.return_, 1) := by decide +kernel
theorem dX3_take_0 : decode cX3_take 0 = .ok (.iload_n 2, 1) := by decide +kernel
theorem dX3_take_1 : decode cX3_take 1 = .ok (.aload_n 0, 1) := by decide +kernel
theorem dX3_take_2 : decode cX3_take 2 = .ok (.getfield 9, 3) := by decide +kernel
theorem dX3_take_5 : decode cX3_take 5 = .ok (.iload_n 1, 1) := by decide +kernel
theorem dX3_take_6 : decode cX3_take 6 = .ok (.iaload, 1) := by decide +kernel
theorem dX3_take_7 : decode cX3_take 7 = .ok (.if_icmp .lt 24, 3) := by decide +kernel
theorem dX3_take_10 : decode cX3_take 10 = .ok (.aload_n 0, 1) := by decide +kernel
theorem dX3_take_11 : decode cX3_take 11 = .ok (.getfield 9, 3) := by decide +kernel
theorem dX3_take_14 : decode cX3_take 14 = .ok (.iload_n 1, 1) := by decide +kernel
theorem dX3_take_15 : decode cX3_take 15 = .ok (.iload_n 2, 1) := by decide +kernel
theorem dX3_take_16 : decode cX3_take 16 = .ok (.iastore, 1) := by decide +kernel
theorem dX3_take_17 : decode cX3_take 17 = .ok (.aload_n 0, 1) := by decide +kernel
theorem dX3_take_18 : decode cX3_take 18 = .ok (.getfield 15, 3) := by decide +kernel
theorem dX3_take_21 : decode cX3_take 21 = .ok (.iload_n 1, 1) := by decide +kernel
theorem dX3_take_22 : decode cX3_take 22 = .ok (.iload_n 3, 1) := by decide +kernel
theorem dX3_take_23 : decode cX3_take 23 = .ok (.aload_n 0, 1) := by decide +kernel
theorem dX3_take_24 : decode cX3_take 24 = .ok (.getfield 18, 3) := by decide +kernel
theorem dX3_take_27 : decode cX3_take 27 = .ok (.invokestatic 31, 3) := by decide +kernel
theorem dX3_take_30 : decode cX3_take 30 = .ok (.iastore, 1) := by decide +kernel
theorem dX3_take_31 : decode cX3_take 31 = .ok (.return_, 1) := by decide +kernel
theorem dX3_takeFrom_0 : decode cX3_takeFrom 0 = .ok (.aload_n 0, 1) := by decide +kernel
theorem dX3_takeFrom_1 : decode cX3_takeFrom 1 = .ok (.iload_n 2, 1) := by decide +kernel
theorem dX3_takeFrom_2 : decode cX3_takeFrom 2 = .ok (.aload_n 1, 1) := by decide +kernel
theorem dX3_takeFrom_3 : decode cX3_takeFrom 3 = .ok (.getfield 9, 3) := by decide +kernel
theorem dX3_takeFrom_6 : decode cX3_takeFrom 6 = .ok (.iload_n 2, 1) := by decide +kernel
theorem dX3_takeFrom_7 : decode cX3_takeFrom 7 = .ok (.iaload, 1) := by decide +kernel
theorem dX3_takeFrom_8 : decode cX3_takeFrom 8 = .ok (.aload_n 1, 1) := by decide +kernel
theorem dX3_takeFrom_9 : decode cX3_takeFrom 9 = .ok (.getfield 15, 3) := by decide +kernel
theorem dX3_takeFrom_12 : decode cX3_takeFrom 12 = .ok (.iload_n 2, 1) := by decide +kernel
theorem dX3_takeFrom_13 : decode cX3_takeFrom 13 = .ok (.iaload, 1) := by decide +kernel
theorem dX3_takeFrom_14 : decode cX3_takeFrom 14 = .ok (.invokevirtual 37, 3) := by decide +kernel
theorem dX3_takeFrom_17 : decode cX3_takeFrom 17 = .ok (.return_, 1) := by decide +kernel
theorem dX3_rows_0 : decode cX3_rows 0 = .ok (.iconst 0, 1) := by decide +kernel
theorem dX3_rows_1 : decode cX3_rows 1 = .ok (.istore_n 1, 1) := by decide +kernel
theorem dX3_rows_2 : decode cX3_rows 2 = .ok (.iconst 0, 1) := by decide +kernel
theorem dX3_rows_3 : decode cX3_rows 3 = .ok (.istore_n 2, 1) := by decide +kernel
theorem dX3_rows_4 : decode cX3_rows 4 = .ok (.iload_n 2, 1) := by decide +kernel
theorem dX3_rows_5 : decode cX3_rows 5 = .ok (.bipush 31, 2) := by decide +kernel
theorem dX3_rows_7 : decode cX3_rows 7 = .ok (.if_icmp .ge 27, 3) := by decide +kernel
theorem dX3_rows_10 : decode cX3_rows 10 = .ok (.iload_n 1, 1) := by decide +kernel
theorem dX3_rows_11 : decode cX3_rows 11 = .ok (.aload_n 0, 1) := by decide +kernel
theorem dX3_rows_12 : decode cX3_rows 12 = .ok (.getfield 15, 3) := by decide +kernel
theorem dX3_rows_15 : decode cX3_rows 15 = .ok (.iload_n 2, 1) := by decide +kernel
theorem dX3_rows_16 : decode cX3_rows 16 = .ok (.iaload, 1) := by decide +kernel
theorem dX3_rows_17 : decode cX3_rows 17 = .ok (.iconst (-1), 1) := by decide +kernel
theorem dX3_rows_18 : decode cX3_rows 18 = .ok (.if_icmp .ne 7, 3) := by decide +kernel
theorem dX3_rows_21 : decode cX3_rows 21 = .ok (.iconst 0, 1) := by decide +kernel
theorem dX3_rows_22 : decode cX3_rows 22 = .ok (.goto 4, 3) := by decide +kernel
theorem dX3_rows_25 : decode cX3_rows 25 = .ok (.iconst 1, 1) := by decide +kernel
theorem dX3_rows_26 : decode cX3_rows 26 = .ok (.iadd, 1) := by decide +kernel
theorem dX3_rows_27 : decode cX3_rows 27 = .ok (.istore_n 1, 1) := by decide +kernel
theorem dX3_rows_28 : decode cX3_rows 28 = .ok (.iinc 2 1, 3) := by decide +kernel
theorem dX3_rows_31 : decode cX3_rows 31 = .ok (.goto (-27), 3) := by decide +kernel
theorem dX3_rows_34 : decode cX3_rows 34 = .ok (.iload_n 1, 1) := by decide +kernel
theorem dX3_rows_35 : decode cX3_rows 35 = .ok (.ireturn, 1) := by decide +kernel
theorem dX3_strangeRows_0 : decode cX3_strangeRows 0 = .ok (.iconst 0, 1) := by decide +kernel
theorem dX3_strangeRows_1 : decode cX3_strangeRows 1 = .ok (.istore_n 1, 1) := by decide +kernel
theorem dX3_strangeRows_2 : decode cX3_strangeRows 2 = .ok (.iconst 0, 1) := by decide +kernel
theorem dX3_strangeRows_3 : decode cX3_strangeRows 3 = .ok (.istore_n 2, 1) := by decide +kernel
theorem dX3_strangeRows_4 : decode cX3_strangeRows 4 = .ok (.iload_n 2, 1) := by decide +kernel
theorem dX3_strangeRows_5 : decode cX3_strangeRows 5 = .ok (.bipush 31, 2) := by decide +kernel
theorem dX3_strangeRows_7 : decode cX3_strangeRows 7 = .ok (.if_icmp .ge 29, 3) := by decide +kernel
theorem dX3_strangeRows_10 : decode cX3_strangeRows 10 = .ok (.iload_n 1, 1) := by decide +kernel
theorem dX3_strangeRows_11 : decode cX3_strangeRows 11 = .ok (.aload_n 0, 1) := by decide +kernel
theorem dX3_strangeRows_12 : decode cX3_strangeRows 12 = .ok (.getfield 15, 3) := by decide +kernel
theorem dX3_strangeRows_15 : decode cX3_strangeRows 15 = .ok (.iload_n 2, 1) := by decide +kernel
theorem dX3_strangeRows_16 : decode cX3_strangeRows 16 = .ok (.iaload, 1) := by decide +kernel
theorem dX3_strangeRows_17 : decode cX3_strangeRows 17 = .ok (.invokestatic 41, 3) := by decide +kernel
theorem dX3_strangeRows_20 : decode cX3_strangeRows 20 = .ok (.ifCond .eq 7, 3) := by decide +kernel
theorem dX3_strangeRows_23 : decode cX3_strangeRows 23 = .ok (.iconst 1, 1) := by decide +kernel
theorem dX3_strangeRows_24 : decode cX3_strangeRows 24 = .ok (.goto 4, 3) := by decide +kernel
theorem dX3_strangeRows_27 : decode cX3_strangeRows 27 = .ok (.iconst 0, 1) := by decide +kernel
theorem dX3_strangeRows_28 : decode cX3_strangeRows 28 = .ok (.iadd, 1) := by decide +kernel
theorem dX3_strangeRows_29 : decode cX3_strangeRows 29 = .ok (.istore_n 1, 1) := by decide +kernel
theorem dX3_strangeRows_30 : decode cX3_strangeRows 30 = .ok (.iinc 2 1, 3) := by decide +kernel
theorem dX3_strangeRows_33 : decode cX3_strangeRows 33 = .ok (.goto (-29), 3) := by decide +kernel
theorem dX3_strangeRows_36 : decode cX3_strangeRows 36 = .ok (.iload_n 1, 1) := by decide +kernel
theorem dX3_strangeRows_37 : decode cX3_strangeRows 37 = .ok (.ireturn, 1) := by decide +kernel
theorem dX3_known_0 : decode cX3_known 0 = .ok (.iconst 0, 1) := by decide +kernel
theorem dX3_known_1 : decode cX3_known 1 = .ok (.istore_n 1, 1) := by decide +kernel
theorem dX3_known_2 : decode cX3_known 2 = .ok (.iconst 0, 1) := by decide +kernel
theorem dX3_known_3 : decode cX3_known 3 = .ok (.istore_n 2, 1) := by decide +kernel
theorem dX3_known_4 : decode cX3_known 4 = .ok (.iload_n 2, 1) := by decide +kernel
theorem dX3_known_5 : decode cX3_known 5 = .ok (.bipush 31, 2) := by decide +kernel
theorem dX3_known_7 : decode cX3_known 7 = .ok (.if_icmp .ge 26, 3) := by decide +kernel
theorem dX3_known_10 : decode cX3_known 10 = .ok (.iload_n 1, 1) := by decide +kernel
theorem dX3_known_11 : decode cX3_known 11 = .ok (.aload_n 0, 1) := by decide +kernel
theorem dX3_known_12 : decode cX3_known 12 = .ok (.getfield 9, 3) := by decide +kernel
theorem dX3_known_15 : decode cX3_known 15 = .ok (.iload_n 2, 1) := by decide +kernel
theorem dX3_known_16 : decode cX3_known 16 = .ok (.iaload, 1) := by decide +kernel
theorem dX3_known_17 : decode cX3_known 17 = .ok (.ifCond .ne 7, 3) := by decide +kernel
theorem dX3_known_20 : decode cX3_known 20 = .ok (.iconst 0, 1) := by decide +kernel
theorem dX3_known_21 : decode cX3_known 21 = .ok (.goto 4, 3) := by decide +kernel
theorem dX3_known_24 : decode cX3_known 24 = .ok (.iconst 1, 1) := by decide +kernel
theorem dX3_known_25 : decode cX3_known 25 = .ok (.iadd, 1) := by decide +kernel
theorem dX3_known_26 : decode cX3_known 26 = .ok (.istore_n 1, 1) := by decide +kernel
theorem dX3_known_27 : decode cX3_known 27 = .ok (.iinc 2 1, 3) := by decide +kernel
theorem dX3_known_30 : decode cX3_known 30 = .ok (.goto (-26), 3) := by decide +kernel
theorem dX3_known_33 : decode cX3_known 33 = .ok (.iload_n 1, 1) := by decide +kernel
theorem dX3_known_34 : decode cX3_known 34 = .ok (.ireturn, 1) := by decide +kernel
theorem dX4_init_0 : decode cX4_init 0 = .ok (.aload_n 0, 1) := by decide +kernel
theorem dX4_init_1 : decode cX4_init 1 = .ok (.invokespecial 3, 3) := by decide +kernel
theorem dX4_init_4 : decode cX4_init 4 = .ok (.aload_n 0, 1) := by decide +kernel
theorem dX4_init_5 : decode cX4_init 5 = .ok (.new 9, 3) := by decide +kernel
theorem dX4_init_8 : decode cX4_init 8 = .ok (.dup, 1) := by decide +kernel
theorem dX4_init_9 : decode cX4_init 9 = .ok (.iconst 0, 1) := by decide +kernel
theorem dX4_init_10 : decode cX4_init 10 = .ok (.invokespecial 11, 3) := by decide +kernel
theorem dX4_init_13 : decode cX4_init 13 = .ok (.putfield 14, 3) := by decide +kernel
theorem dX4_init_16 : decode cX4_init 16 = .ok (.aload_n 0, 1) := by decide +kernel
theorem dX4_init_17 : decode cX4_init 17 = .ok (.new 9, 3) := by decide +kernel
theorem dX4_init_20 : decode cX4_init 20 = .ok (.dup, 1) := by decide +kernel
theorem dX4_init_21 : decode cX4_init 21 = .ok (.iconst 1, 1) := by decide +kernel
theorem dX4_init_22 : decode cX4_init 22 = .ok (.invokespecial 11, 3) := by decide +kernel
theorem dX4_init_25 : decode cX4_init 25 = .ok (.putfield 20, 3) := by decide +kernel
theorem dX4_init_28 : decode cX4_init 28 = .ok (.aload_n 0, 1) := by decide +kernel
theorem dX4_init_29 : decode cX4_init 29 = .ok (.new 23, 3) := by decide +kernel
theorem dX4_init_32 : decode cX4_init 32 = .ok (.dup, 1) := by decide +kernel
theorem dX4_init_33 : decode cX4_init 33 = .ok (.invokespecial 25, 3) := by decide +kernel
theorem dX4_init_36 : decode cX4_init 36 = .ok (.putfield 26, 3) := by decide +kernel
theorem dX4_init_39 : decode cX4_init 39 = .ok (.aload_n 0, 1) := by decide +kernel
theorem dX4_init_40 : decode cX4_init 40 = .ok (.bipush 31, 2) := by decide +kernel
theorem dX4_init_42 : decode cX4_init 42 = .ok (.newarray .int, 2) := by decide +kernel
theorem dX4_init_44 : decode cX4_init 44 = .ok (.putfield 30, 3) := by decide +kernel
theorem dX4_init_47 : decode cX4_init 47 = .ok (.aload_n 0, 1) := by decide +kernel
theorem dX4_init_48 : decode cX4_init 48 = .ok (.iconst 3, 1) := by decide +kernel
theorem dX4_init_49 : decode cX4_init 49 = .ok (.newarray .int, 2) := by decide +kernel
theorem dX4_init_51 : decode cX4_init 51 = .ok (.putfield 34, 3) := by decide +kernel
theorem dX4_init_54 : decode cX4_init 54 = .ok (.aload_n 0, 1) := by decide +kernel
theorem dX4_init_55 : decode cX4_init 55 = .ok (.iconst 3, 1) := by decide +kernel
theorem dX4_init_56 : decode cX4_init 56 = .ok (.newarray .int, 2) := by decide +kernel
theorem dX4_init_58 : decode cX4_init 58 = .ok (.putfield 37, 3) := by decide +kernel
theorem dX4_init_61 : decode cX4_init 61 = .ok (.return_, 1) := by decide +kernel
theorem dX4_copyFrom_0 : decode cX4_copyFrom 0 = .ok (.aload_n 0, 1) := by decide +kernel
theorem dX4_copyFrom_1 : decode cX4_copyFrom 1 = .ok (.aload_n 1, 1) := by decide +kernel
theorem dX4_copyFrom_2 : decode cX4_copyFrom 2 = .ok (.getfield 40, 3) := by decide +kernel
theorem dX4_copyFrom_5 : decode cX4_copyFrom 5 = .ok (.putfield 40, 3) := by decide +kernel
theorem dX4_copyFrom_8 : decode cX4_copyFrom 8 = .ok (.aload_n 0, 1) := by decide +kernel
theorem dX4_copyFrom_9 : decode cX4_copyFrom 9 = .ok (.aload_n 1, 1) := by decide +kernel
theorem dX4_copyFrom_10 : decode cX4_copyFrom 10 = .ok (.getfield 44, 3) := by decide +kernel
theorem dX4_copyFrom_13 : decode cX4_copyFrom 13 = .ok (.putfield 44, 3) := by decide +kernel
theorem dX4_copyFrom_16 : decode cX4_copyFrom 16 = .ok (.aload_n 0, 1) := by decide +kernel
theorem dX4_copyFrom_17 : decode cX4_copyFrom 17 = .ok (.aload_n 1, 1) := by decide +kernel
theorem dX4_copyFrom_18 : decode cX4_copyFrom 18 = .ok (.getfield 47, 3) := by decide +kernel
theorem dX4_copyFrom_21 : decode cX4_copyFrom 21 = .ok (.putfield 47, 3) := by decide +kernel
theorem dX4_copyFrom_24 : decode cX4_copyFrom 24 = .ok (.aload_n 0, 1) := by decide +kernel
theorem dX4_copyFrom_25 : decode cX4_copyFrom 25 = .ok (.aload_n 1, 1) := by decide +kernel
theorem dX4_copyFrom_26 : decode cX4_copyFrom 26 = .ok (.getfield 50, 3) := by decide +kernel
theorem dX4_copyFrom_29 : decode cX4_copyFrom 29 = .ok (.putfield 50, 3) := by decide +kernel
theorem dX4_copyFrom_32 : decode cX4_copyFrom 32 = .ok (.aload_n 0, 1) := by decide +kernel
theorem dX4_copyFrom_33 : decode cX4_copyFrom 33 = .ok (.getfield 14, 3) := by decide +kernel
theorem dX4_copyFrom_36 : decode cX4_copyFrom 36 = .ok (.aload_n 1, 1) := by decide +kernel
theorem dX4_copyFrom_37 : decode cX4_copyFrom 37 = .ok (.getfield 14, 3) := by decide +kernel
theorem dX4_copyFrom_40 : decode cX4_copyFrom 40 = .ok (.invokevirtual 53, 3) := by decide +kernel
theorem dX4_copyFrom_43 : decode cX4_copyFrom 43 = .ok (.aload_n 0, 1) := by decide +kernel
theorem dX4_copyFrom_44 : decode cX4_copyFrom 44 = .ok (.getfield 20, 3) := by decide +kernel
theorem dX4_copyFrom_47 : decode cX4_copyFrom 47 = .ok (.aload_n 1, 1) := by decide +kernel
theorem dX4_copyFrom_48 : decode cX4_copyFrom 48 = .ok (.getfield 20, 3) := by decide +kernel
theorem dX4_copyFrom_51 : decode cX4_copyFrom 51 = .ok (.invokevirtual 53, 3) := by decide +kernel
theorem dX4_copyFrom_54 : decode cX4_copyFrom 54 = .ok (.aload_n 0, 1) := by decide +kernel
theorem dX4_copyFrom_55 : decode cX4_copyFrom 55 = .ok (.getfield 26, 3) := by decide +kernel
theorem dX4_copyFrom_58 : decode cX4_copyFrom 58 = .ok (.aload_n 1, 1) := by decide +kernel
theorem dX4_copyFrom_59 : decode cX4_copyFrom 59 = .ok (.getfield 26, 3) := by decide +kernel
theorem dX4_copyFrom_62 : decode cX4_copyFrom 62 = .ok (.invokevirtual 57, 3) := by decide +kernel
theorem dX4_copyFrom_65 : decode cX4_copyFrom 65 = .ok (.aload_n 1, 1) := by decide +kernel
theorem dX4_copyFrom_66 : decode cX4_copyFrom 66 = .ok (.getfield 30, 3) := by decide +kernel
theorem dX4_copyFrom_69 : decode cX4_copyFrom 69 = .ok (.iconst 0, 1) := by decide +kernel
theorem dX4_copyFrom_70 : decode cX4_copyFrom 70 = .ok (.aload_n 0, 1) := by decide +kernel
theorem dX4_copyFrom_71 : decode cX4_copyFrom 71 = .ok (.getfield 30, 3) := by decide +kernel
theorem dX4_copyFrom_74 : decode cX4_copyFrom 74 = .ok (.iconst 0, 1) := by decide +kernel
theorem dX4_copyFrom_75 : decode cX4_copyFrom 75 = .ok (.bipush 31, 2) := by decide +kernel
theorem dX4_copyFrom_77 : decode cX4_copyFrom 77 = .ok (.invokestatic 60, 3) := by decide +kernel
theorem dX4_copyFrom_80 : decode cX4_copyFrom 80 = .ok (.aload_n 0, 1) := by decide +kernel
theorem dX4_copyFrom_81 : decode cX4_copyFrom 81 = .ok (.aload_n 1, 1) := by decide +kernel
theorem dX4_copyFrom_82 : decode cX4_copyFrom 82 = .ok (.getfield 66, 3) := by decide +kernel
theorem dX4_copyFrom_85 : decode cX4_copyFrom 85 = .ok (.putfield 66, 3) := by decide +kernel
theorem dX4_copyFrom_88 : decode cX4_copyFrom 88 = .ok (.aload_n 1, 1) := by decide +kernel
theorem dX4_copyFrom_89 : decode cX4_copyFrom 89 = .ok (.getfield 34, 3) := by decide +kernel
theorem dX4_copyFrom_92 : decode cX4_copyFrom 92 = .ok (.iconst 0, 1) := by decide +kernel
theorem dX4_copyFrom_93 : decode cX4_copyFrom 93 = .ok (.aload_n 0, 1) := by decide +kernel
theorem dX4_copyFrom_94 : decode cX4_copyFrom 94 = .ok (.getfield 34, 3) := by decide +kernel
theorem dX4_copyFrom_97 : decode cX4_copyFrom 97 = .ok (.iconst 0, 1) := by decide +kernel
theorem dX4_copyFrom_98 : decode cX4_copyFrom 98 = .ok (.iconst 3, 1) := by decide +kernel
theorem dX4_copyFrom_99 : decode cX4_copyFrom 99 = .ok (.invokestatic 60, 3) := by decide +kernel
theorem dX4_copyFrom_102 : decode cX4_copyFrom 102 = .ok (.aload_n 1, 1) := by decide +kernel
theorem dX4_copyFrom_103 : decode cX4_copyFrom 103 = .ok (.getfield 37, 3) := by decide +kernel
theorem dX4_copyFrom_106 : decode cX4_copyFrom 106 = .ok (.iconst 0, 1) := by decide +kernel
theorem dX4_copyFrom_107 : decode cX4_copyFrom 107 = .ok (.aload_n 0, 1) := by decide +kernel
theorem dX4_copyFrom_108 : decode cX4_copyFrom 108 = .ok (.getfield 37, 3) := by decide +kernel
theorem dX4_copyFrom_111 : decode cX4_copyFrom 111 = .ok (.iconst 0, 1) := by decide +kernel
theorem dX4_copyFrom_112 : decode cX4_copyFrom 112 = .ok (.iconst 3, 1) := by decide +kernel
theorem dX4_copyFrom_113 : decode cX4_copyFrom 113 = .ok (.invokestatic 60, 3) := by decide +kernel
theorem dX4_copyFrom_116 : decode cX4_copyFrom 116 = .ok (.return_, 1) := by decide +kernel
theorem dX4_hasBoth_0 : decode cX4_hasBoth 0 = .ok (.aload_n 0, 1) := by decide +kernel
theorem dX4_hasBoth_1 : decode cX4_hasBoth 1 = .ok (.getfield 40, 3) := by decide +kernel
theorem dX4_hasBoth_4 : decode cX4_hasBoth 4 = .ok (.iconst 1, 1) := by decide +kernel
theorem dX4_hasBoth_5 : decode cX4_hasBoth 5 = .ok (.if_icmp .eq 11, 3) := by decide +kernel
theorem dX4_hasBoth_8 : decode cX4_hasBoth 8 = .ok (.aload_n 0, 1) := by decide +kernel
theorem dX4_hasBoth_9 : decode cX4_hasBoth 9 = .ok (.getfield 40, 3) := by decide +kernel
theorem dX4_hasBoth_12 : decode cX4_hasBoth 12 = .ok (.iconst 2, 1) := by decide +kernel
theorem dX4_hasBoth_13 : decode cX4_hasBoth 13 = .ok (.if_icmp .ne 7, 3) := by decide +kernel
theorem dX4_hasBoth_16 : decode cX4_hasBoth 16 = .ok (.iconst 1, 1) := by decide +kernel
theorem dX4_hasBoth_17 : decode cX4_hasBoth 17 = .ok (.goto 4, 3) := by decide +kernel
theorem dX4_hasBoth_20 : decode cX4_hasBoth 20 = .ok (.iconst 0, 1) := by decide +kernel
theorem dX4_hasBoth_21 : decode cX4_hasBoth 21 = .ok (.ireturn, 1) := by decide +kernel
theorem dX4_isThere_0 : decode cX4_isThere 0 = .ok (.iload_n 1, 1) := by decide +kernel
theorem dX4_isThere_1 : decode cX4_isThere 1 = .ok (.ifCond .ne 19, 3) := by decide +kernel
theorem dX4_isThere_4 : decode cX4_isThere 4 = .ok (.aload_n 0, 1) := by decide +kernel
theorem dX4_isThere_5 : decode cX4_isThere 5 = .ok (.getfield 40, 3) := by decide +kernel
theorem dX4_isThere_8 : decode cX4_isThere 8 = .ok (.iconst 3, 1) := by decide +kernel
theorem dX4_isThere_9 : decode cX4_isThere 9 = .ok (.if_icmp .eq 7, 3) := by decide +kernel
theorem dX4_isThere_12 : decode cX4_isThere 12 = .ok (.iconst 1, 1) := by decide +kernel
theorem dX4_isThere_13 : decode cX4_isThere 13 = .ok (.goto 19, 3) := by decide +kernel
theorem dX4_isThere_16 : decode cX4_isThere 16 = .ok (.iconst 0, 1) := by decide +kernel
theorem dX4_isThere_17 : decode cX4_isThere 17 = .ok (.goto 15, 3) := by decide +kernel
theorem dX4_isThere_20 : decode cX4_isThere 20 = .ok (.aload_n 0, 1) := by decide +kernel
theorem dX4_isThere_21 : decode cX4_isThere 21 = .ok (.getfield 40, 3) := by decide +kernel
theorem dX4_isThere_24 : decode cX4_isThere 24 = .ok (.ifCond .eq 7, 3) := by decide +kernel
theorem dX4_isThere_27 : decode cX4_isThere 27 = .ok (.iconst 1, 1) := by decide +kernel
theorem dX4_isThere_28 : decode cX4_isThere 28 = .ok (.goto 4, 3) := by decide +kernel
theorem dX4_isThere_31 : decode cX4_isThere 31 = .ok (.iconst 0, 1) := by decide +kernel
theorem dX4_isThere_32 : decode cX4_isThere 32 = .ok (.ireturn, 1) := by decide +kernel
theorem dX4_first_0 : decode cX4_first 0 = .ok (.aload_n 0, 1) := by decide +kernel
theorem dX4_first_1 : decode cX4_first 1 = .ok (.getfield 40, 3) := by decide +kernel
theorem dX4_first_4 : decode cX4_first 4 = .ok (.ifCond .eq 11, 3) := by decide +kernel
theorem dX4_first_7 : decode cX4_first 7 = .ok (.aload_n 0, 1) := by decide +kernel
theorem dX4_first_8 : decode cX4_first 8 = .ok (.getfield 40, 3) := by decide +kernel
theorem dX4_first_11 : decode cX4_first 11 = .ok (.iconst 1, 1) := by decide +kernel
theorem dX4_first_12 : decode cX4_first 12 = .ok (.if_icmp .ne 7, 3) := by decide +kernel
theorem dX4_first_15 : decode cX4_first 15 = .ok (.iconst 0, 1) := by decide +kernel
theorem dX4_first_16 : decode cX4_first 16 = .ok (.goto 4, 3) := by decide +kernel
theorem dX4_first_19 : decode cX4_first 19 = .ok (.iconst 1, 1) := by decide +kernel
theorem dX4_first_20 : decode cX4_first 20 = .ok (.ireturn, 1) := by decide +kernel
theorem dX4_second_0 : decode cX4_second 0 = .ok (.aload_n 0, 1) := by decide +kernel
theorem dX4_second_1 : decode cX4_second 1 = .ok (.aload_n 0, 1) := by decide +kernel
theorem dX4_second_2 : decode cX4_second 2 = .ok (.invokevirtual 69, 3) := by decide +kernel
theorem dX4_second_5 : decode cX4_second 5 = .ok (.invokevirtual 73, 3) := by decide +kernel
theorem dX4_second_8 : decode cX4_second 8 = .ok (.ireturn, 1) := by decide +kernel
theorem dX4_other_0 : decode cX4_other 0 = .ok (.iload_n 1, 1) := by decide +kernel
theorem dX4_other_1 : decode cX4_other 1 = .ok (.ifCond .ne 7, 3) := by decide +kernel
theorem dX4_other_4 : decode cX4_other 4 = .ok (.iconst 1, 1) := by decide +kernel
theorem dX4_other_5 : decode cX4_other 5 = .ok (.goto 4, 3) := by decide +kernel
theorem dX4_other_8 : decode cX4_other 8 = .ok (.iconst 0, 1) := by decide +kernel
theorem dX4_other_9 : decode cX4_other 9 = .ok (.ireturn, 1) := by decide +kernel
theorem dX4_shape_0 : decode cX4_shape 0 = .ok (.iload_n 1, 1) := by decide +kernel
theorem dX4_shape_1 : decode cX4_shape 1 = .ok (.ifCond .ne 10, 3) := by decide +kernel
theorem dX4_shape_4 : decode cX4_shape 4 = .ok (.aload_n 0, 1) := by decide +kernel
theorem dX4_shape_5 : decode cX4_shape 5 = .ok (.getfield 14, 3) := by decide +kernel
theorem dX4_shape_8 : decode cX4_shape 8 = .ok (.goto 7, 3) := by decide +kernel
theorem dX4_shape_11 : decode cX4_shape 11 = .ok (.aload_n 0, 1) := by decide +kernel
theorem dX4_shape_12 : decode cX4_shape 12 = .ok (.getfield 20, 3) := by decide +kernel
theorem dX4_shape_15 : decode cX4_shape 15 = .ok (.areturn, 1) := by decide +kernel
theorem dX4_startChange_0 : decode cX4_startChange 0 = .ok (.aload_n 0, 1) := by decide +kernel
theorem dX4_startChange_1 : decode cX4_startChange 1 = .ok (.getfield 40, 3) := by decide +kernel
theorem dX4_startChange_4 : decode cX4_startChange 4 = .ok (.ifCond .eq 6, 3) := by decide +kernel
theorem dX4_startChange_7 : decode cX4_startChange 7 = .ok (.ldc 77, 2) := by decide +kernel
theorem dX4_startChange_9 : decode cX4_startChange 9 = .ok (.ireturn, 1) := by decide +kernel
theorem dX4_startChange_10 : decode cX4_startChange 10 = .ok (.aload_n 0, 1) := by decide +kernel
theorem dX4_startChange_11 : decode cX4_startChange 11 = .ok (.iconst 1, 1) := by decide +kernel
theorem dX4_startChange_12 : decode cX4_startChange 12 = .ok (.putfield 40, 3) := by decide +kernel
theorem dX4_startChange_15 : decode cX4_startChange 15 = .ok (.aload_n 0, 1) := by decide +kernel
theorem dX4_startChange_16 : decode cX4_startChange 16 = .ok (.iconst 0, 1) := by decide +kernel
theorem dX4_startChange_17 : decode cX4_startChange 17 = .ok (.putfield 47, 3) := by decide +kernel
theorem dX4_startChange_20 : decode cX4_startChange 20 = .ok (.aload_n 0, 1) := by decide +kernel
theorem dX4_startChange_21 : decode cX4_startChange 21 = .ok (.getfield 14, 3) := by decide +kernel
theorem dX4_startChange_24 : decode cX4_startChange 24 = .ok (.invokevirtual 78, 3) := by decide +kernel
theorem dX4_startChange_27 : decode cX4_startChange 27 = .ok (.ireturn, 1) := by decide +kernel
theorem dX4_isReady_0 : decode cX4_isReady 0 = .ok (.aload_n 0, 1) := by decide +kernel
theorem dX4_isReady_1 : decode cX4_isReady 1 = .ok (.getfield 40, 3) := by decide +kernel
theorem dX4_isReady_4 : decode cX4_isReady 4 = .ok (.iconst 1, 1) := by decide +kernel
theorem dX4_isReady_5 : decode cX4_isReady 5 = .ok (.if_icmp .ne 33, 3) := by decide +kernel
theorem dX4_isReady_8 : decode cX4_isReady 8 = .ok (.aload_n 0, 1) := by decide +kernel
theorem dX4_isReady_9 : decode cX4_isReady 9 = .ok (.getfield 47, 3) := by decide +kernel
theorem dX4_isReady_12 : decode cX4_isReady 12 = .ok (.bipush 31, 2) := by decide +kernel
theorem dX4_isReady_14 : decode cX4_isReady 14 = .ok (.if_icmp .ne 24, 3) := by decide +kernel
theorem dX4_isReady_17 : decode cX4_isReady 17 = .ok (.aload_n 0, 1) := by decide +kernel
theorem dX4_isReady_18 : decode cX4_isReady 18 = .ok (.getfield 26, 3) := by decide +kernel
theorem dX4_isReady_21 : decode cX4_isReady 21 = .ok (.getfield 81, 3) := by decide +kernel
theorem dX4_isReady_24 : decode cX4_isReady 24 = .ok (.ifCond .ne 14, 3) := by decide +kernel
theorem dX4_isReady_27 : decode cX4_isReady 27 = .ok (.aload_n 0, 1) := by decide +kernel
theorem dX4_isReady_28 : decode cX4_isReady 28 = .ok (.invokevirtual 84, 3) := by decide +kernel
theorem dX4_isReady_31 : decode cX4_isReady 31 = .ok (.ifCond .ne 7, 3) := by decide +kernel
theorem dX4_isReady_34 : decode cX4_isReady 34 = .ok (.iconst 1, 1) := by decide +kernel
theorem dX4_isReady_35 : decode cX4_isReady 35 = .ok (.goto 4, 3) := by decide +kernel
theorem dX4_isReady_38 : decode cX4_isReady 38 = .ok (.iconst 0, 1) := by decide +kernel
theorem dX4_isReady_39 : decode cX4_isReady 39 = .ok (.ireturn, 1) := by decide +kernel
theorem dX4_turnOver_0 : decode cX4_turnOver 0 = .ok (.aload_n 0, 1) := by decide +kernel
theorem dX4_turnOver_1 : decode cX4_turnOver 1 = .ok (.invokevirtual 87, 3) := by decide +kernel
theorem dX4_turnOver_4 : decode cX4_turnOver 4 = .ok (.ifCond .ne 6, 3) := by decide +kernel
theorem dX4_turnOver_7 : decode cX4_turnOver 7 = .ok (.ldc 77, 2) := by decide +kernel
theorem dX4_turnOver_9 : decode cX4_turnOver 9 = .ok (.ireturn, 1) := by decide +kernel
theorem dX4_turnOver_10 : decode cX4_turnOver 10 = .ok (.aload_n 0, 1) := by decide +kernel
theorem dX4_turnOver_11 : decode cX4_turnOver 11 = .ok (.iconst 2, 1) := by decide +kernel
theorem dX4_turnOver_12 : decode cX4_turnOver 12 = .ok (.putfield 40, 3) := by decide +kernel
theorem dX4_turnOver_15 : decode cX4_turnOver 15 = .ok (.aload_n 0, 1) := by decide +kernel
theorem dX4_turnOver_16 : decode cX4_turnOver 16 = .ok (.getfield 20, 3) := by decide +kernel
theorem dX4_turnOver_19 : decode cX4_turnOver 19 = .ok (.invokevirtual 78, 3) := by decide +kernel
theorem dX4_turnOver_22 : decode cX4_turnOver 22 = .ok (.ireturn, 1) := by decide +kernel
theorem dX4_turnBack_0 : decode cX4_turnBack 0 = .ok (.aload_n 0, 1) := by decide +kernel
theorem dX4_turnBack_1 : decode cX4_turnBack 1 = .ok (.invokevirtual 91, 3) := by decide +kernel
theorem dX4_turnBack_4 : decode cX4_turnBack 4 = .ok (.ifCond .eq 13, 3) := by decide +kernel
theorem dX4_turnBack_7 : decode cX4_turnBack 7 = .ok (.aload_n 0, 1) := by decide +kernel
theorem dX4_turnBack_8 : decode cX4_turnBack 8 = .ok (.getfield 26, 3) := by decide +kernel
theorem dX4_turnBack_11 : decode cX4_turnBack 11 = .ok (.getfield 81, 3) := by decide +kernel
theorem dX4_turnBack_14 : decode cX4_turnBack 14 = .ok (.ifCond .eq 6, 3) := by decide +kernel
theorem dX4_turnBack_17 : decode cX4_turnBack 17 = .ok (.ldc 77, 2) := by decide +kernel
theorem dX4_turnBack_19 : decode cX4_turnBack 19 = .ok (.ireturn, 1) := by decide +kernel
theorem dX4_turnBack_20 : decode cX4_turnBack 20 = .ok (.aload_n 0, 1) := by decide +kernel
theorem dX4_turnBack_21 : decode cX4_turnBack 21 = .ok (.getfield 40, 3) := by decide +kernel
theorem dX4_turnBack_24 : decode cX4_turnBack 24 = .ok (.iconst 2, 1) := by decide +kernel
theorem dX4_turnBack_25 : decode cX4_turnBack 25 = .ok (.if_icmp .ne 17, 3) := by decide +kernel
theorem dX4_turnBack_28 : decode cX4_turnBack 28 = .ok (.aload_n 0, 1) := by decide +kernel
theorem dX4_turnBack_29 : decode cX4_turnBack 29 = .ok (.iconst 1, 1) := by decide +kernel
theorem dX4_turnBack_30 : decode cX4_turnBack 30 = .ok (.putfield 40, 3) := by decide +kernel
theorem dX4_turnBack_33 : decode cX4_turnBack 33 = .ok (.aload_n 0, 1) := by decide +kernel
theorem dX4_turnBack_34 : decode cX4_turnBack 34 = .ok (.bipush 31, 2) := by decide +kernel
theorem dX4_turnBack_36 : decode cX4_turnBack 36 = .ok (.putfield 47, 3) := by decide +kernel
theorem dX4_turnBack_39 : decode cX4_turnBack 39 = .ok (.goto 15, 3) := by decide +kernel
theorem dX4_turnBack_42 : decode cX4_turnBack 42 = .ok (.aload_n 0, 1) := by decide +kernel
theorem dX4_turnBack_43 : decode cX4_turnBack 43 = .ok (.iconst 0, 1) := by decide +kernel
theorem dX4_turnBack_44 : decode cX4_turnBack 44 = .ok (.putfield 40, 3) := by decide +kernel
theorem dX4_turnBack_47 : decode cX4_turnBack 47 = .ok (.aload_n 0, 1) := by decide +kernel
theorem dX4_turnBack_48 : decode cX4_turnBack 48 = .ok (.getfield 20, 3) := by decide +kernel
theorem dX4_turnBack_51 : decode cX4_turnBack 51 = .ok (.invokevirtual 94, 3) := by decide +kernel
theorem dX4_turnBack_54 : decode cX4_turnBack 54 = .ok (.aload_n 0, 1) := by decide +kernel
theorem dX4_turnBack_55 : decode cX4_turnBack 55 = .ok (.getfield 40, 3) := by decide +kernel
theorem dX4_turnBack_58 : decode cX4_turnBack 58 = .ok (.ireturn, 1) := by decide +kernel
theorem dX4_dropOld_0 : decode cX4_dropOld 0 = .ok (.aload_n 0, 1) := by decide +kernel
theorem dX4_dropOld_1 : decode cX4_dropOld 1 = .ok (.getfield 40, 3) := by decide +kernel
theorem dX4_dropOld_4 : decode cX4_dropOld 4 = .ok (.iconst 2, 1) := by decide +kernel
theorem dX4_dropOld_5 : decode cX4_dropOld 5 = .ok (.if_icmp .ne 20, 3) := by decide +kernel
theorem dX4_dropOld_8 : decode cX4_dropOld 8 = .ok (.aload_n 0, 1) := by decide +kernel
theorem dX4_dropOld_9 : decode cX4_dropOld 9 = .ok (.getfield 26, 3) := by decide +kernel
theorem dX4_dropOld_12 : decode cX4_dropOld 12 = .ok (.getfield 81, 3) := by decide +kernel
theorem dX4_dropOld_15 : decode cX4_dropOld 15 = .ok (.ifCond .ne 10, 3) := by decide +kernel
theorem dX4_dropOld_18 : decode cX4_dropOld 18 = .ok (.aload_n 0, 1) := by decide +kernel
theorem dX4_dropOld_19 : decode cX4_dropOld 19 = .ok (.invokevirtual 84, 3) := by decide +kernel
theorem dX4_dropOld_22 : decode cX4_dropOld 22 = .ok (.ifCond .eq 6, 3) := by decide +kernel
theorem dX4_dropOld_25 : decode cX4_dropOld 25 = .ok (.ldc 77, 2) := by decide +kernel
theorem dX4_dropOld_27 : decode cX4_dropOld 27 = .ok (.ireturn, 1) := by decide +kernel
theorem dX4_dropOld_28 : decode cX4_dropOld 28 = .ok (.aload_n 0, 1) := by decide +kernel
theorem dX4_dropOld_29 : decode cX4_dropOld 29 = .ok (.iconst 3, 1) := by decide +kernel
theorem dX4_dropOld_30 : decode cX4_dropOld 30 = .ok (.putfield 40, 3) := by decide +kernel
theorem dX4_dropOld_33 : decode cX4_dropOld 33 = .ok (.aload_n 0, 1) := by decide +kernel
theorem dX4_dropOld_34 : decode cX4_dropOld 34 = .ok (.getfield 14, 3) := by decide +kernel
theorem dX4_dropOld_37 : decode cX4_dropOld 37 = .ok (.invokevirtual 94, 3) := by decide +kernel
theorem dX4_dropOld_40 : decode cX4_dropOld 40 = .ok (.aload_n 0, 1) := by decide +kernel
theorem dX4_dropOld_41 : decode cX4_dropOld 41 = .ok (.getfield 20, 3) := by decide +kernel
theorem dX4_dropOld_44 : decode cX4_dropOld 44 = .ok (.invokevirtual 97, 3) := by decide +kernel
theorem dX4_dropOld_47 : decode cX4_dropOld 47 = .ok (.ireturn, 1) := by decide +kernel
theorem dX4_putOld_0 : decode cX4_putOld 0 = .ok (.iload_n 1, 1) := by decide +kernel
theorem dX4_putOld_1 : decode cX4_putOld 1 = .ok (.bipush 31, 2) := by decide +kernel
theorem dX4_putOld_3 : decode cX4_putOld 3 = .ok (.invokestatic 100, 3) := by decide +kernel
theorem dX4_putOld_6 : decode cX4_putOld 6 = .ok (.ifCond .eq 30, 3) := by decide +kernel
theorem dX4_putOld_9 : decode cX4_putOld 9 = .ok (.iload_n 2, 1) := by decide +kernel
theorem dX4_putOld_10 : decode cX4_putOld 10 = .ok (.bipush 100, 2) := by decide +kernel
theorem dX4_putOld_12 : decode cX4_putOld 12 = .ok (.invokestatic 100, 3) := by decide +kernel
theorem dX4_putOld_15 : decode cX4_putOld 15 = .ok (.ifCond .eq 21, 3) := by decide +kernel
theorem dX4_putOld_18 : decode cX4_putOld 18 = .ok (.iload_n 3, 1) := by decide +kernel
theorem dX4_putOld_19 : decode cX4_putOld 19 = .ok (.bipush 10, 2) := by decide +kernel
theorem dX4_putOld_21 : decode cX4_putOld 21 = .ok (.invokestatic 100, 3) := by decide +kernel
theorem dX4_putOld_24 : decode cX4_putOld 24 = .ok (.ifCond .eq 12, 3) := by decide +kernel
theorem dX4_putOld_27 : decode cX4_putOld 27 = .ok (.iload 4, 2) := by decide +kernel
theorem dX4_putOld_29 : decode cX4_putOld 29 = .ok (.iconst 2, 1) := by decide +kernel
theorem dX4_putOld_30 : decode cX4_putOld 30 = .ok (.invokestatic 100, 3) := by decide +kernel
theorem dX4_putOld_33 : decode cX4_putOld 33 = .ok (.ifCond .ne 6, 3) := by decide +kernel
theorem dX4_putOld_36 : decode cX4_putOld 36 = .ok (.ldc 106, 2) := by decide +kernel
theorem dX4_putOld_38 : decode cX4_putOld 38 = .ok (.ireturn, 1) := by decide +kernel
theorem dX4_putOld_39 : decode cX4_putOld 39 = .ok (.aload_n 0, 1) := by decide +kernel
theorem dX4_putOld_40 : decode cX4_putOld 40 = .ok (.iload_n 1, 1) := by decide +kernel
theorem dX4_putOld_41 : decode cX4_putOld 41 = .ok (.iload_n 2, 1) := by decide +kernel
theorem dX4_putOld_42 : decode cX4_putOld 42 = .ok (.iload_n 3, 1) := by decide +kernel
theorem dX4_putOld_43 : decode cX4_putOld 43 = .ok (.iload 4, 2) := by decide +kernel
theorem dX4_putOld_45 : decode cX4_putOld 45 = .ok (.invokestatic 107, 3) := by decide +kernel
theorem dX4_putOld_48 : decode cX4_putOld 48 = .ok (.invokevirtual 111, 3) := by decide +kernel
theorem dX4_putOld_51 : decode cX4_putOld 51 = .ok (.ireturn, 1) := by decide +kernel
theorem dX4_putNew_0 : decode cX4_putNew 0 = .ok (.iload_n 1, 1) := by decide +kernel
theorem dX4_putNew_1 : decode cX4_putNew 1 = .ok (.bipush 31, 2) := by decide +kernel
theorem dX4_putNew_3 : decode cX4_putNew 3 = .ok (.invokestatic 100, 3) := by decide +kernel
theorem dX4_putNew_6 : decode cX4_putNew 6 = .ok (.ifCond .eq 21, 3) := by decide +kernel
theorem dX4_putNew_9 : decode cX4_putNew 9 = .ok (.iload_n 2, 1) := by decide +kernel
theorem dX4_putNew_10 : decode cX4_putNew 10 = .ok (.sipush 1000, 3) := by decide +kernel
theorem dX4_putNew_13 : decode cX4_putNew 13 = .ok (.invokestatic 100, 3) := by decide +kernel
theorem dX4_putNew_16 : decode cX4_putNew 16 = .ok (.ifCond .eq 11, 3) := by decide +kernel
theorem dX4_putNew_19 : decode cX4_putNew 19 = .ok (.iload_n 3, 1) := by decide +kernel
theorem dX4_putNew_20 : decode cX4_putNew 20 = .ok (.iconst 4, 1) := by decide +kernel
theorem dX4_putNew_21 : decode cX4_putNew 21 = .ok (.invokestatic 100, 3) := by decide +kernel
theorem dX4_putNew_24 : decode cX4_putNew 24 = .ok (.ifCond .ne 6, 3) := by decide +kernel
theorem dX4_putNew_27 : decode cX4_putNew 27 = .ok (.ldc 106, 2) := by decide +kernel
theorem dX4_putNew_29 : decode cX4_putNew 29 = .ok (.ireturn, 1) := by decide +kernel
theorem dX4_putNew_30 : decode cX4_putNew 30 = .ok (.aload_n 0, 1) := by decide +kernel
theorem dX4_putNew_31 : decode cX4_putNew 31 = .ok (.iload_n 1, 1) := by decide +kernel
theorem dX4_putNew_32 : decode cX4_putNew 32 = .ok (.iload_n 2, 1) := by decide +kernel
theorem dX4_putNew_33 : decode cX4_putNew 33 = .ok (.iload_n 3, 1) := by decide +kernel
theorem dX4_putNew_34 : decode cX4_putNew 34 = .ok (.invokestatic 115, 3) := by decide +kernel
theorem dX4_putNew_37 : decode cX4_putNew 37 = .ok (.invokevirtual 111, 3) := by decide +kernel
theorem dX4_putNew_40 : decode cX4_putNew 40 = .ok (.ireturn, 1) := by decide +kernel
theorem dX4_takeAway_0 : decode cX4_takeAway 0 = .ok (.iload_n 1, 1) := by decide +kernel
theorem dX4_takeAway_1 : decode cX4_takeAway 1 = .ok (.bipush 31, 2) := by decide +kernel
theorem dX4_takeAway_3 : decode cX4_takeAway 3 = .ok (.invokestatic 100, 3) := by decide +kernel
theorem dX4_takeAway_6 : decode cX4_takeAway 6 = .ok (.ifCond .ne 6, 3) := by decide +kernel
theorem dX4_takeAway_9 : decode cX4_takeAway 9 = .ok (.ldc 106, 2) := by decide +kernel
theorem dX4_takeAway_11 : decode cX4_takeAway 11 = .ok (.ireturn, 1) := by decide +kernel
theorem dX4_takeAway_12 : decode cX4_takeAway 12 = .ok (.aload_n 0, 1) := by decide +kernel
theorem dX4_takeAway_13 : decode cX4_takeAway 13 = .ok (.aload_n 0, 1) := by decide +kernel
theorem dX4_takeAway_14 : decode cX4_takeAway 14 = .ok (.invokevirtual 69, 3) := by decide +kernel
theorem dX4_takeAway_17 : decode cX4_takeAway 17 = .ok (.invokevirtual 118, 3) := by decide +kernel
theorem dX4_takeAway_20 : decode cX4_takeAway 20 = .ok (.getfield 122, 3) := by decide +kernel
theorem dX4_takeAway_23 : decode cX4_takeAway 23 = .ok (.iload_n 1, 1) := by decide +kernel
theorem dX4_takeAway_24 : decode cX4_takeAway 24 = .ok (.iaload, 1) := by decide +kernel
theorem dX4_takeAway_25 : decode cX4_takeAway 25 = .ok (.iconst (-1), 1) := by decide +kernel
theorem dX4_takeAway_26 : decode cX4_takeAway 26 = .ok (.if_icmp .ne 6, 3) := by decide +kernel
theorem dX4_takeAway_29 : decode cX4_takeAway 29 = .ok (.ldc 77, 2) := by decide +kernel
theorem dX4_takeAway_31 : decode cX4_takeAway 31 = .ok (.ireturn, 1) := by decide +kernel
theorem dX4_takeAway_32 : decode cX4_takeAway 32 = .ok (.aload_n 0, 1) := by decide +kernel
theorem dX4_takeAway_33 : decode cX4_takeAway 33 = .ok (.iload_n 1, 1) := by decide +kernel
theorem dX4_takeAway_34 : decode cX4_takeAway 34 = .ok (.iconst (-1), 1) := by decide +kernel
theorem dX4_takeAway_35 : decode cX4_takeAway 35 = .ok (.invokevirtual 111, 3) := by decide +kernel
theorem dX4_takeAway_38 : decode cX4_takeAway 38 = .ok (.ireturn, 1) := by decide +kernel
theorem dX4_put_0 : decode cX4_put 0 = .ok (.aload_n 0, 1) := by decide +kernel
theorem dX4_put_1 : decode cX4_put 1 = .ok (.invokevirtual 91, 3) := by decide +kernel
theorem dX4_put_4 : decode cX4_put 4 = .ok (.ifCond .eq 19, 3) := by decide +kernel
theorem dX4_put_7 : decode cX4_put 7 = .ok (.aload_n 0, 1) := by decide +kernel
theorem dX4_put_8 : decode cX4_put 8 = .ok (.getfield 26, 3) := by decide +kernel
theorem dX4_put_11 : decode cX4_put 11 = .ok (.getfield 81, 3) := by decide +kernel
theorem dX4_put_14 : decode cX4_put 14 = .ok (.bipush 8, 2) := by decide +kernel
theorem dX4_put_16 : decode cX4_put 16 = .ok (.if_icmp .lt 7, 3) := by decide +kernel
theorem dX4_put_19 : decode cX4_put 19 = .ok (.iconst 1, 1) := by decide +kernel
theorem dX4_put_20 : decode cX4_put 20 = .ok (.goto 4, 3) := by decide +kernel
theorem dX4_put_23 : decode cX4_put 23 = .ok (.iconst 0, 1) := by decide +kernel
theorem dX4_put_24 : decode cX4_put 24 = .ok (.istore_n 3, 1) := by decide +kernel
theorem dX4_put_25 : decode cX4_put 25 = .ok (.iload_n 3, 1) := by decide +kernel
theorem dX4_put_26 : decode cX4_put 26 = .ok (.ifCond .ne 12, 3) := by decide +kernel
theorem dX4_put_29 : decode cX4_put 29 = .ok (.aload_n 0, 1) := by decide +kernel
theorem dX4_put_30 : decode cX4_put 30 = .ok (.getfield 44, 3) := by decide +kernel
theorem dX4_put_33 : decode cX4_put 33 = .ok (.ldc 125, 2) := by decide +kernel
theorem dX4_put_35 : decode cX4_put 35 = .ok (.if_icmp .lt 6, 3) := by decide +kernel
theorem dX4_put_38 : decode cX4_put 38 = .ok (.ldc 126, 2) := by decide +kernel
theorem dX4_put_40 : decode cX4_put 40 = .ok (.ireturn, 1) := by decide +kernel
theorem dX4_put_41 : decode cX4_put 41 = .ok (.aload_n 0, 1) := by decide +kernel
theorem dX4_put_42 : decode cX4_put 42 = .ok (.dup, 1) := by decide +kernel
theorem dX4_put_43 : decode cX4_put 43 = .ok (.getfield 44, 3) := by decide +kernel
theorem dX4_put_46 : decode cX4_put 46 = .ok (.iconst 1, 1) := by decide +kernel
theorem dX4_put_47 : decode cX4_put 47 = .ok (.iadd, 1) := by decide +kernel
theorem dX4_put_48 : decode cX4_put 48 = .ok (.putfield 44, 3) := by decide +kernel
theorem dX4_put_51 : decode cX4_put 51 = .ok (.aload_n 0, 1) := by decide +kernel
theorem dX4_put_52 : decode cX4_put 52 = .ok (.getfield 30, 3) := by decide +kernel
theorem dX4_put_55 : decode cX4_put 55 = .ok (.iload_n 1, 1) := by decide +kernel
theorem dX4_put_56 : decode cX4_put 56 = .ok (.aload_n 0, 1) := by decide +kernel
theorem dX4_put_57 : decode cX4_put 57 = .ok (.getfield 44, 3) := by decide +kernel
theorem dX4_put_60 : decode cX4_put 60 = .ok (.iastore, 1) := by decide +kernel
theorem dX4_put_61 : decode cX4_put 61 = .ok (.aload_n 0, 1) := by decide +kernel
theorem dX4_put_62 : decode cX4_put 62 = .ok (.aload_n 0, 1) := by decide +kernel
theorem dX4_put_63 : decode cX4_put 63 = .ok (.invokevirtual 69, 3) := by decide +kernel
theorem dX4_put_66 : decode cX4_put 66 = .ok (.invokevirtual 118, 3) := by decide +kernel
theorem dX4_put_69 : decode cX4_put 69 = .ok (.iload_n 1, 1) := by decide +kernel
theorem dX4_put_70 : decode cX4_put 70 = .ok (.aload_n 0, 1) := by decide +kernel
theorem dX4_put_71 : decode cX4_put 71 = .ok (.getfield 44, 3) := by decide +kernel
theorem dX4_put_74 : decode cX4_put 74 = .ok (.iload_n 2, 1) := by decide +kernel
theorem dX4_put_75 : decode cX4_put 75 = .ok (.invokevirtual 127, 3) := by decide +kernel
theorem dX4_put_78 : decode cX4_put 78 = .ok (.aload_n 0, 1) := by decide +kernel
theorem dX4_put_79 : decode cX4_put 79 = .ok (.invokevirtual 91, 3) := by decide +kernel
theorem dX4_put_82 : decode cX4_put 82 = .ok (.ifCond .eq 16, 3) := by decide +kernel
theorem dX4_put_85 : decode cX4_put 85 = .ok (.aload_n 0, 1) := by decide +kernel
theorem dX4_put_86 : decode cX4_put 86 = .ok (.getfield 26, 3) := by decide +kernel
theorem dX4_put_89 : decode cX4_put 89 = .ok (.iload_n 1, 1) := by decide +kernel
theorem dX4_put_90 : decode cX4_put 90 = .ok (.aload_n 0, 1) := by decide +kernel
theorem dX4_put_91 : decode cX4_put 91 = .ok (.getfield 44, 3) := by decide +kernel
theorem dX4_put_94 : decode cX4_put 94 = .ok (.iload_n 2, 1) := by decide +kernel
theorem dX4_put_95 : decode cX4_put 95 = .ok (.invokevirtual 131, 3) := by decide +kernel
theorem dX4_put_98 : decode cX4_put 98 = .ok (.aload_n 0, 1) := by decide +kernel
theorem dX4_put_99 : decode cX4_put 99 = .ok (.getfield 44, 3) := by decide +kernel
theorem dX4_put_102 : decode cX4_put 102 = .ok (.ireturn, 1) := by decide +kernel
theorem dX4_drainQueue_0 : decode cX4_drainQueue 0 = .ok (.iload_n 1, 1) := by decide +kernel
theorem dX4_drainQueue_1 : decode cX4_drainQueue 1 = .ok (.iconst 1, 1) := by decide +kernel
theorem dX4_drainQueue_2 : decode cX4_drainQueue 2 = .ok (.if_icmp .lt 9, 3) := by decide +kernel
theorem dX4_drainQueue_5 : decode cX4_drainQueue 5 = .ok (.iload_n 1, 1) := by decide +kernel
theorem dX4_drainQueue_6 : decode cX4_drainQueue 6 = .ok (.bipush 8, 2) := by decide +kernel
theorem dX4_drainQueue_8 : decode cX4_drainQueue 8 = .ok (.if_icmp .le 6, 3) := by decide +kernel
theorem dX4_drainQueue_11 : decode cX4_drainQueue 11 = .ok (.ldc 106, 2) := by decide +kernel
theorem dX4_drainQueue_13 : decode cX4_drainQueue 13 = .ok (.ireturn, 1) := by decide +kernel
theorem dX4_drainQueue_14 : decode cX4_drainQueue 14 = .ok (.aload_n 0, 1) := by decide +kernel
theorem dX4_drainQueue_15 : decode cX4_drainQueue 15 = .ok (.getfield 26, 3) := by decide +kernel
theorem dX4_drainQueue_18 : decode cX4_drainQueue 18 = .ok (.getfield 81, 3) := by decide +kernel
theorem dX4_drainQueue_21 : decode cX4_drainQueue 21 = .ok (.ifCond .ne 6, 3) := by decide +kernel
theorem dX4_drainQueue_24 : decode cX4_drainQueue 24 = .ok (.ldc 77, 2) := by decide +kernel
theorem dX4_drainQueue_26 : decode cX4_drainQueue 26 = .ok (.ireturn, 1) := by decide +kernel
theorem dX4_drainQueue_27 : decode cX4_drainQueue 27 = .ok (.iload_n 1, 1) := by decide +kernel
theorem dX4_drainQueue_28 : decode cX4_drainQueue 28 = .ok (.aload_n 0, 1) := by decide +kernel
theorem dX4_drainQueue_29 : decode cX4_drainQueue 29 = .ok (.getfield 26, 3) := by decide +kernel
theorem dX4_drainQueue_32 : decode cX4_drainQueue 32 = .ok (.getfield 81, 3) := by decide +kernel
theorem dX4_drainQueue_35 : decode cX4_drainQueue 35 = .ok (.invokestatic 134, 3) := by decide +kernel
theorem dX4_drainQueue_38 : decode cX4_drainQueue 38 = .ok (.istore_n 2, 1) := by decide +kernel
theorem dX4_drainQueue_39 : decode cX4_drainQueue 39 = .ok (.aload_n 0, 1) := by decide +kernel
theorem dX4_drainQueue_40 : decode cX4_drainQueue 40 = .ok (.aload_n 0, 1) := by decide +kernel
theorem dX4_drainQueue_41 : decode cX4_drainQueue 41 = .ok (.invokevirtual 139, 3) := by decide +kernel
theorem dX4_drainQueue_44 : decode cX4_drainQueue 44 = .ok (.invokevirtual 118, 3) := by decide +kernel
theorem dX4_drainQueue_47 : decode cX4_drainQueue 47 = .ok (.astore_n 3, 1) := by decide +kernel
theorem dX4_drainQueue_48 : decode cX4_drainQueue 48 = .ok (.iconst 0, 1) := by decide +kernel
theorem dX4_drainQueue_49 : decode cX4_drainQueue 49 = .ok (.istore 4, 2) := by decide +kernel
theorem dX4_drainQueue_51 : decode cX4_drainQueue 51 = .ok (.iload 4, 2) := by decide +kernel
theorem dX4_drainQueue_53 : decode cX4_drainQueue 53 = .ok (.iload_n 2, 1) := by decide +kernel
theorem dX4_drainQueue_54 : decode cX4_drainQueue 54 = .ok (.if_icmp .ge 43, 3) := by decide +kernel
theorem dX4_drainQueue_57 : decode cX4_drainQueue 57 = .ok (.aload_n 3, 1) := by decide +kernel
theorem dX4_drainQueue_58 : decode cX4_drainQueue 58 = .ok (.aload_n 0, 1) := by decide +kernel
theorem dX4_drainQueue_59 : decode cX4_drainQueue 59 = .ok (.getfield 26, 3) := by decide +kernel
theorem dX4_drainQueue_62 : decode cX4_drainQueue 62 = .ok (.getfield 142, 3) := by decide +kernel
theorem dX4_drainQueue_65 : decode cX4_drainQueue 65 = .ok (.iload 4, 2) := by decide +kernel
theorem dX4_drainQueue_67 : decode cX4_drainQueue 67 = .ok (.iaload, 1) := by decide +kernel
theorem dX4_drainQueue_68 : decode cX4_drainQueue 68 = .ok (.aload_n 0, 1) := by decide +kernel
theorem dX4_drainQueue_69 : decode cX4_drainQueue 69 = .ok (.getfield 26, 3) := by decide +kernel
theorem dX4_drainQueue_72 : decode cX4_drainQueue 72 = .ok (.getfield 145, 3) := by decide +kernel
theorem dX4_drainQueue_75 : decode cX4_drainQueue 75 = .ok (.iload 4, 2) := by decide +kernel
theorem dX4_drainQueue_77 : decode cX4_drainQueue 77 = .ok (.iaload, 1) := by decide +kernel
theorem dX4_drainQueue_78 : decode cX4_drainQueue 78 = .ok (.aload_n 0, 1) := by decide +kernel
theorem dX4_drainQueue_79 : decode cX4_drainQueue 79 = .ok (.getfield 26, 3) := by decide +kernel
theorem dX4_drainQueue_82 : decode cX4_drainQueue 82 = .ok (.getfield 148, 3) := by decide +kernel
theorem dX4_drainQueue_85 : decode cX4_drainQueue 85 = .ok (.iload 4, 2) := by decide +kernel
theorem dX4_drainQueue_87 : decode cX4_drainQueue 87 = .ok (.iaload, 1) := by decide +kernel
theorem dX4_drainQueue_88 : decode cX4_drainQueue 88 = .ok (.invokevirtual 127, 3) := by decide +kernel
theorem dX4_drainQueue_91 : decode cX4_drainQueue 91 = .ok (.iinc 4 1, 3) := by decide +kernel
theorem dX4_drainQueue_94 : decode cX4_drainQueue 94 = .ok (.goto (-43), 3) := by decide +kernel
theorem dX4_drainQueue_97 : decode cX4_drainQueue 97 = .ok (.aload_n 0, 1) := by decide +kernel
theorem dX4_drainQueue_98 : decode cX4_drainQueue 98 = .ok (.getfield 26, 3) := by decide +kernel
theorem dX4_drainQueue_101 : decode cX4_drainQueue 101 = .ok (.iload_n 2, 1) := by decide +kernel
theorem dX4_drainQueue_102 : decode cX4_drainQueue 102 = .ok (.invokevirtual 149, 3) := by decide +kernel
theorem dX4_drainQueue_105 : decode cX4_drainQueue 105 = .ok (.aload_n 0, 1) := by decide +kernel
theorem dX4_drainQueue_106 : decode cX4_drainQueue 106 = .ok (.getfield 26, 3) := by decide +kernel
theorem dX4_drainQueue_109 : decode cX4_drainQueue 109 = .ok (.getfield 81, 3) := by decide +kernel
theorem dX4_drainQueue_112 : decode cX4_drainQueue 112 = .ok (.ireturn, 1) := by decide +kernel
theorem dX4_fillKeys_0 : decode cX4_fillKeys 0 = .ok (.iload_n 1, 1) := by decide +kernel
theorem dX4_fillKeys_1 : decode cX4_fillKeys 1 = .ok (.iconst 1, 1) := by decide +kernel
theorem dX4_fillKeys_2 : decode cX4_fillKeys 2 = .ok (.if_icmp .lt 9, 3) := by decide +kernel
theorem dX4_fillKeys_5 : decode cX4_fillKeys 5 = .ok (.iload_n 1, 1) := by decide +kernel
theorem dX4_fillKeys_6 : decode cX4_fillKeys 6 = .ok (.bipush 31, 2) := by decide +kernel
theorem dX4_fillKeys_8 : decode cX4_fillKeys 8 = .ok (.if_icmp .le 6, 3) := by decide +kernel
theorem dX4_fillKeys_11 : decode cX4_fillKeys 11 = .ok (.ldc 106, 2) := by decide +kernel
theorem dX4_fillKeys_13 : decode cX4_fillKeys 13 = .ok (.ireturn, 1) := by decide +kernel
theorem dX4_fillKeys_14 : decode cX4_fillKeys 14 = .ok (.aload_n 0, 1) := by decide +kernel
theorem dX4_fillKeys_15 : decode cX4_fillKeys 15 = .ok (.getfield 40, 3) := by decide +kernel
theorem dX4_fillKeys_18 : decode cX4_fillKeys 18 = .ok (.iconst 1, 1) := by decide +kernel
theorem dX4_fillKeys_19 : decode cX4_fillKeys 19 = .ok (.if_icmp .ne 12, 3) := by decide +kernel
theorem dX4_fillKeys_22 : decode cX4_fillKeys 22 = .ok (.aload_n 0, 1) := by decide +kernel
theorem dX4_fillKeys_23 : decode cX4_fillKeys 23 = .ok (.getfield 47, 3) := by decide +kernel
theorem dX4_fillKeys_26 : decode cX4_fillKeys 26 = .ok (.bipush 31, 2) := by decide +kernel
theorem dX4_fillKeys_28 : decode cX4_fillKeys 28 = .ok (.if_icmp .lt 6, 3) := by decide +kernel
theorem dX4_fillKeys_31 : decode cX4_fillKeys 31 = .ok (.ldc 77, 2) := by decide +kernel
theorem dX4_fillKeys_33 : decode cX4_fillKeys 33 = .ok (.ireturn, 1) := by decide +kernel
theorem dX4_fillKeys_34 : decode cX4_fillKeys 34 = .ok (.iconst 0, 1) := by decide +kernel
theorem dX4_fillKeys_35 : decode cX4_fillKeys 35 = .ok (.istore_n 2, 1) := by decide +kernel
theorem dX4_fillKeys_36 : decode cX4_fillKeys 36 = .ok (.bipush 31, 2) := by decide +kernel
theorem dX4_fillKeys_38 : decode cX4_fillKeys 38 = .ok (.aload_n 0, 1) := by decide +kernel
theorem dX4_fillKeys_39 : decode cX4_fillKeys 39 = .ok (.getfield 47, 3) := by decide +kernel
theorem dX4_fillKeys_42 : decode cX4_fillKeys 42 = .ok (.iload_n 1, 1) := by decide +kernel
theorem dX4_fillKeys_43 : decode cX4_fillKeys 43 = .ok (.iadd, 1) := by decide +kernel
theorem dX4_fillKeys_44 : decode cX4_fillKeys 44 = .ok (.invokestatic 134, 3) := by decide +kernel
theorem dX4_fillKeys_47 : decode cX4_fillKeys 47 = .ok (.istore_n 3, 1) := by decide +kernel
theorem dX4_fillKeys_48 : decode cX4_fillKeys 48 = .ok (.aload_n 0, 1) := by decide +kernel
theorem dX4_fillKeys_49 : decode cX4_fillKeys 49 = .ok (.getfield 47, 3) := by decide +kernel
theorem dX4_fillKeys_52 : decode cX4_fillKeys 52 = .ok (.istore 4, 2) := by decide +kernel
theorem dX4_fillKeys_54 : decode cX4_fillKeys 54 = .ok (.iload 4, 2) := by decide +kernel
theorem dX4_fillKeys_56 : decode cX4_fillKeys 56 = .ok (.iload_n 3, 1) := by decide +kernel
theorem dX4_fillKeys_57 : decode cX4_fillKeys 57 = .ok (.if_icmp .ge 48, 3) := by decide +kernel
theorem dX4_fillKeys_60 : decode cX4_fillKeys 60 = .ok (.aload_n 0, 1) := by decide +kernel
theorem dX4_fillKeys_61 : decode cX4_fillKeys 61 = .ok (.getfield 14, 3) := by decide +kernel
theorem dX4_fillKeys_64 : decode cX4_fillKeys 64 = .ok (.getfield 152, 3) := by decide +kernel
theorem dX4_fillKeys_67 : decode cX4_fillKeys 67 = .ok (.iload 4, 2) := by decide +kernel
theorem dX4_fillKeys_69 : decode cX4_fillKeys 69 = .ok (.iaload, 1) := by decide +kernel
theorem dX4_fillKeys_70 : decode cX4_fillKeys 70 = .ok (.aload_n 0, 1) := by decide +kernel
theorem dX4_fillKeys_71 : decode cX4_fillKeys 71 = .ok (.getfield 20, 3) := by decide +kernel
theorem dX4_fillKeys_74 : decode cX4_fillKeys 74 = .ok (.getfield 152, 3) := by decide +kernel
theorem dX4_fillKeys_77 : decode cX4_fillKeys 77 = .ok (.iload 4, 2) := by decide +kernel
theorem dX4_fillKeys_79 : decode cX4_fillKeys 79 = .ok (.iaload, 1) := by decide +kernel
theorem dX4_fillKeys_80 : decode cX4_fillKeys 80 = .ok (.if_icmp .le 19, 3) := by decide +kernel
theorem dX4_fillKeys_83 : decode cX4_fillKeys 83 = .ok (.aload_n 0, 1) := by decide +kernel
theorem dX4_fillKeys_84 : decode cX4_fillKeys 84 = .ok (.getfield 20, 3) := by decide +kernel
theorem dX4_fillKeys_87 : decode cX4_fillKeys 87 = .ok (.aload_n 0, 1) := by decide +kernel
theorem dX4_fillKeys_88 : decode cX4_fillKeys 88 = .ok (.getfield 14, 3) := by decide +kernel
theorem dX4_fillKeys_91 : decode cX4_fillKeys 91 = .ok (.iload 4, 2) := by decide +kernel
theorem dX4_fillKeys_93 : decode cX4_fillKeys 93 = .ok (.invokevirtual 153, 3) := by decide +kernel
theorem dX4_fillKeys_96 : decode cX4_fillKeys 96 = .ok (.iinc 2 1, 3) := by decide +kernel
theorem dX4_fillKeys_99 : decode cX4_fillKeys 99 = .ok (.iinc 4 1, 3) := by decide +kernel
theorem dX4_fillKeys_102 : decode cX4_fillKeys 102 = .ok (.goto (-48), 3) := by decide +kernel
theorem dX4_fillKeys_105 : decode cX4_fillKeys 105 = .ok (.aload_n 0, 1) := by decide +kernel
theorem dX4_fillKeys_106 : decode cX4_fillKeys 106 = .ok (.iload_n 3, 1) := by decide +kernel
theorem dX4_fillKeys_107 : decode cX4_fillKeys 107 = .ok (.putfield 47, 3) := by decide +kernel
theorem dX4_fillKeys_110 : decode cX4_fillKeys 110 = .ok (.iload_n 2, 1) := by decide +kernel
theorem dX4_fillKeys_111 : decode cX4_fillKeys 111 = .ok (.ireturn, 1) := by decide +kernel
theorem dX4_loseQueue_0 : decode cX4_loseQueue 0 = .ok (.aload_n 0, 1) := by decide +kernel
theorem dX4_loseQueue_1 : decode cX4_loseQueue 1 = .ok (.getfield 26, 3) := by decide +kernel
theorem dX4_loseQueue_4 : decode cX4_loseQueue 4 = .ok (.getfield 81, 3) := by decide +kernel
theorem dX4_loseQueue_7 : decode cX4_loseQueue 7 = .ok (.istore_n 1, 1) := by decide +kernel
theorem dX4_loseQueue_8 : decode cX4_loseQueue 8 = .ok (.iload_n 1, 1) := by decide +kernel
theorem dX4_loseQueue_9 : decode cX4_loseQueue 9 = .ok (.ifCond .ne 6, 3) := by decide +kernel
theorem dX4_loseQueue_12 : decode cX4_loseQueue 12 = .ok (.ldc 77, 2) := by decide +kernel
theorem dX4_loseQueue_14 : decode cX4_loseQueue 14 = .ok (.ireturn, 1) := by decide +kernel
theorem dX4_loseQueue_15 : decode cX4_loseQueue 15 = .ok (.aload_n 0, 1) := by decide +kernel
theorem dX4_loseQueue_16 : decode cX4_loseQueue 16 = .ok (.dup, 1) := by decide +kernel
theorem dX4_loseQueue_17 : decode cX4_loseQueue 17 = .ok (.getfield 50, 3) := by decide +kernel
theorem dX4_loseQueue_20 : decode cX4_loseQueue 20 = .ok (.iload_n 1, 1) := by decide +kernel
theorem dX4_loseQueue_21 : decode cX4_loseQueue 21 = .ok (.iadd, 1) := by decide +kernel
theorem dX4_loseQueue_22 : decode cX4_loseQueue 22 = .ok (.putfield 50, 3) := by decide +kernel
theorem dX4_loseQueue_25 : decode cX4_loseQueue 25 = .ok (.aload_n 0, 1) := by decide +kernel
theorem dX4_loseQueue_26 : decode cX4_loseQueue 26 = .ok (.getfield 26, 3) := by decide +kernel
theorem dX4_loseQueue_29 : decode cX4_loseQueue 29 = .ok (.iload_n 1, 1) := by decide +kernel
theorem dX4_loseQueue_30 : decode cX4_loseQueue 30 = .ok (.invokevirtual 149, 3) := by decide +kernel
theorem dX4_loseQueue_33 : decode cX4_loseQueue 33 = .ok (.iload_n 1, 1) := by decide +kernel
theorem dX4_loseQueue_34 : decode cX4_loseQueue 34 = .ok (.ireturn, 1) := by decide +kernel
theorem dX4_mendKey_0 : decode cX4_mendKey 0 = .ok (.iload_n 1, 1) := by decide +kernel
theorem dX4_mendKey_1 : decode cX4_mendKey 1 = .ok (.bipush 31, 2) := by decide +kernel
theorem dX4_mendKey_3 : decode cX4_mendKey 3 = .ok (.invokestatic 100, 3) := by decide +kernel
theorem dX4_mendKey_6 : decode cX4_mendKey 6 = .ok (.ifCond .ne 6, 3) := by decide +kernel
theorem dX4_mendKey_9 : decode cX4_mendKey 9 = .ok (.ldc 106, 2) := by decide +kernel
theorem dX4_mendKey_11 : decode cX4_mendKey 11 = .ok (.ireturn, 1) := by decide +kernel
theorem dX4_mendKey_12 : decode cX4_mendKey 12 = .ok (.aload_n 0, 1) := by decide +kernel
theorem dX4_mendKey_13 : decode cX4_mendKey 13 = .ok (.invokevirtual 91, 3) := by decide +kernel
theorem dX4_mendKey_16 : decode cX4_mendKey 16 = .ok (.ifCond .eq 15, 3) := by decide +kernel
theorem dX4_mendKey_19 : decode cX4_mendKey 19 = .ok (.aload_n 0, 1) := by decide +kernel
theorem dX4_mendKey_20 : decode cX4_mendKey 20 = .ok (.getfield 26, 3) := by decide +kernel
theorem dX4_mendKey_23 : decode cX4_mendKey 23 = .ok (.iload_n 1, 1) := by decide +kernel
theorem dX4_mendKey_24 : decode cX4_mendKey 24 = .ok (.invokevirtual 157, 3) := by decide +kernel
theorem dX4_mendKey_27 : decode cX4_mendKey 27 = .ok (.iconst (-1), 1) := by decide +kernel
theorem dX4_mendKey_28 : decode cX4_mendKey 28 = .ok (.if_icmp .eq 6, 3) := by decide +kernel
theorem dX4_mendKey_31 : decode cX4_mendKey 31 = .ok (.ldc 77, 2) := by decide +kernel
theorem dX4_mendKey_33 : decode cX4_mendKey 33 = .ok (.ireturn, 1) := by decide +kernel
theorem dX4_mendKey_34 : decode cX4_mendKey 34 = .ok (.aload_n 0, 1) := by decide +kernel
theorem dX4_mendKey_35 : decode cX4_mendKey 35 = .ok (.invokevirtual 84, 3) := by decide +kernel
theorem dX4_mendKey_38 : decode cX4_mendKey 38 = .ok (.iconst 1, 1) := by decide +kernel
theorem dX4_mendKey_39 : decode cX4_mendKey 39 = .ok (.iload_n 1, 1) := by decide +kernel
theorem dX4_mendKey_40 : decode cX4_mendKey 40 = .ok (.ishl, 1) := by decide +kernel
theorem dX4_mendKey_41 : decode cX4_mendKey 41 = .ok (.iand, 1) := by decide +kernel
theorem dX4_mendKey_42 : decode cX4_mendKey 42 = .ok (.ifCond .ne 5, 3) := by decide +kernel
theorem dX4_mendKey_45 : decode cX4_mendKey 45 = .ok (.iconst 0, 1) := by decide +kernel
theorem dX4_mendKey_46 : decode cX4_mendKey 46 = .ok (.ireturn, 1) := by decide +kernel
theorem dX4_mendKey_47 : decode cX4_mendKey 47 = .ok (.aload_n 0, 1) := by decide +kernel
theorem dX4_mendKey_48 : decode cX4_mendKey 48 = .ok (.iload_n 1, 1) := by decide +kernel
theorem dX4_mendKey_49 : decode cX4_mendKey 49 = .ok (.invokevirtual 160, 3) := by decide +kernel
theorem dX4_mendKey_52 : decode cX4_mendKey 52 = .ok (.istore_n 2, 1) := by decide +kernel
theorem dX4_mendKey_53 : decode cX4_mendKey 53 = .ok (.aload_n 0, 1) := by decide +kernel
theorem dX4_mendKey_54 : decode cX4_mendKey 54 = .ok (.aload_n 0, 1) := by decide +kernel
theorem dX4_mendKey_55 : decode cX4_mendKey 55 = .ok (.iload_n 2, 1) := by decide +kernel
theorem dX4_mendKey_56 : decode cX4_mendKey 56 = .ok (.invokevirtual 73, 3) := by decide +kernel
theorem dX4_mendKey_59 : decode cX4_mendKey 59 = .ok (.invokevirtual 118, 3) := by decide +kernel
theorem dX4_mendKey_62 : decode cX4_mendKey 62 = .ok (.aload_n 0, 1) := by decide +kernel
theorem dX4_mendKey_63 : decode cX4_mendKey 63 = .ok (.iload_n 2, 1) := by decide +kernel
theorem dX4_mendKey_64 : decode cX4_mendKey 64 = .ok (.invokevirtual 118, 3) := by decide +kernel
theorem dX4_mendKey_67 : decode cX4_mendKey 67 = .ok (.iload_n 1, 1) := by decide +kernel
theorem dX4_mendKey_68 : decode cX4_mendKey 68 = .ok (.invokevirtual 153, 3) := by decide +kernel
theorem dX4_mendKey_71 : decode cX4_mendKey 71 = .ok (.iconst 1, 1) := by decide +kernel
theorem dX4_mendKey_72 : decode cX4_mendKey 72 = .ok (.ireturn, 1) := by decide +kernel
theorem dX4_newerOf_0 : decode cX4_newerOf 0 = .ok (.aload_n 0, 1) := by decide +kernel
theorem dX4_newerOf_1 : decode cX4_newerOf 1 = .ok (.getfield 14, 3) := by decide +kernel
theorem dX4_newerOf_4 : decode cX4_newerOf 4 = .ok (.getfield 152, 3) := by decide +kernel
theorem dX4_newerOf_7 : decode cX4_newerOf 7 = .ok (.iload_n 1, 1) := by decide +kernel
theorem dX4_newerOf_8 : decode cX4_newerOf 8 = .ok (.iaload, 1) := by decide +kernel
theorem dX4_newerOf_9 : decode cX4_newerOf 9 = .ok (.istore_n 2, 1) := by decide +kernel
theorem dX4_newerOf_10 : decode cX4_newerOf 10 = .ok (.aload_n 0, 1) := by decide +kernel
theorem dX4_newerOf_11 : decode cX4_newerOf 11 = .ok (.getfield 20, 3) := by decide +kernel
theorem dX4_newerOf_14 : decode cX4_newerOf 14 = .ok (.getfield 152, 3) := by decide +kernel
theorem dX4_newerOf_17 : decode cX4_newerOf 17 = .ok (.iload_n 1, 1) := by decide +kernel
theorem dX4_newerOf_18 : decode cX4_newerOf 18 = .ok (.iaload, 1) := by decide +kernel
theorem dX4_newerOf_19 : decode cX4_newerOf 19 = .ok (.istore_n 3, 1) := by decide +kernel
theorem dX4_newerOf_20 : decode cX4_newerOf 20 = .ok (.iload_n 2, 1) := by decide +kernel
theorem dX4_newerOf_21 : decode cX4_newerOf 21 = .ok (.iload_n 3, 1) := by decide +kernel
theorem dX4_newerOf_22 : decode cX4_newerOf 22 = .ok (.if_icmp .ne 8, 3) := by decide +kernel
theorem dX4_newerOf_25 : decode cX4_newerOf 25 = .ok (.aload_n 0, 1) := by decide +kernel
theorem dX4_newerOf_26 : decode cX4_newerOf 26 = .ok (.invokevirtual 69, 3) := by decide +kernel
theorem dX4_newerOf_29 : decode cX4_newerOf 29 = .ok (.ireturn, 1) := by decide +kernel
theorem dX4_newerOf_30 : decode cX4_newerOf 30 = .ok (.iload_n 2, 1) := by decide +kernel
theorem dX4_newerOf_31 : decode cX4_newerOf 31 = .ok (.iload_n 3, 1) := by decide +kernel
theorem dX4_newerOf_32 : decode cX4_newerOf 32 = .ok (.if_icmp .le 7, 3) := by decide +kernel
theorem dX4_newerOf_35 : decode cX4_newerOf 35 = .ok (.iconst 0, 1) := by decide +kernel
theorem dX4_newerOf_36 : decode cX4_newerOf 36 = .ok (.goto 4, 3) := by decide +kernel
theorem dX4_newerOf_39 : decode cX4_newerOf 39 = .ok (.iconst 1, 1) := by decide +kernel
theorem dX4_newerOf_40 : decode cX4_newerOf 40 = .ok (.ireturn, 1) := by decide +kernel
theorem dX4_rowRead_0 : decode cX4_rowRead 0 = .ok (.aload_n 0, 1) := by decide +kernel
theorem dX4_rowRead_1 : decode cX4_rowRead 1 = .ok (.getfield 26, 3) := by decide +kernel
theorem dX4_rowRead_4 : decode cX4_rowRead 4 = .ok (.iload_n 1, 1) := by decide +kernel
theorem dX4_rowRead_5 : decode cX4_rowRead 5 = .ok (.invokevirtual 157, 3) := by decide +kernel
theorem dX4_rowRead_8 : decode cX4_rowRead 8 = .ok (.istore_n 3, 1) := by decide +kernel
theorem dX4_rowRead_9 : decode cX4_rowRead 9 = .ok (.iload_n 3, 1) := by decide +kernel
theorem dX4_rowRead_10 : decode cX4_rowRead 10 = .ok (.iconst (-1), 1) := by decide +kernel
theorem dX4_rowRead_11 : decode cX4_rowRead 11 = .ok (.if_icmp .eq 25, 3) := by decide +kernel
theorem dX4_rowRead_14 : decode cX4_rowRead 14 = .ok (.iload_n 2, 1) := by decide +kernel
theorem dX4_rowRead_15 : decode cX4_rowRead 15 = .ok (.aload_n 0, 1) := by decide +kernel
theorem dX4_rowRead_16 : decode cX4_rowRead 16 = .ok (.invokevirtual 139, 3) := by decide +kernel
theorem dX4_rowRead_19 : decode cX4_rowRead 19 = .ok (.if_icmp .ne 17, 3) := by decide +kernel
theorem dX4_rowRead_22 : decode cX4_rowRead 22 = .ok (.aload_n 0, 1) := by decide +kernel
theorem dX4_rowRead_23 : decode cX4_rowRead 23 = .ok (.getfield 26, 3) := by decide +kernel
theorem dX4_rowRead_26 : decode cX4_rowRead 26 = .ok (.getfield 148, 3) := by decide +kernel
theorem dX4_rowRead_29 : decode cX4_rowRead 29 = .ok (.iload_n 3, 1) := by decide +kernel
theorem dX4_rowRead_30 : decode cX4_rowRead 30 = .ok (.iaload, 1) := by decide +kernel
theorem dX4_rowRead_31 : decode cX4_rowRead 31 = .ok (.iload_n 2, 1) := by decide +kernel
theorem dX4_rowRead_32 : decode cX4_rowRead 32 = .ok (.invokestatic 163, 3) := by decide +kernel
theorem dX4_rowRead_35 : decode cX4_rowRead 35 = .ok (.ireturn, 1) := by decide +kernel
theorem dX4_rowRead_36 : decode cX4_rowRead 36 = .ok (.aload_n 0, 1) := by decide +kernel
theorem dX4_rowRead_37 : decode cX4_rowRead 37 = .ok (.getfield 40, 3) := by decide +kernel
theorem dX4_rowRead_40 : decode cX4_rowRead 40 = .ok (.iconst 1, 1) := by decide +kernel
theorem dX4_rowRead_41 : decode cX4_rowRead 41 = .ok (.if_icmp .ne 24, 3) := by decide +kernel
theorem dX4_rowRead_44 : decode cX4_rowRead 44 = .ok (.iload_n 2, 1) := by decide +kernel
theorem dX4_rowRead_45 : decode cX4_rowRead 45 = .ok (.iconst 1, 1) := by decide +kernel
theorem dX4_rowRead_46 : decode cX4_rowRead 46 = .ok (.if_icmp .ne 19, 3) := by decide +kernel
theorem dX4_rowRead_49 : decode cX4_rowRead 49 = .ok (.aload_n 0, 1) := by decide +kernel
theorem dX4_rowRead_50 : decode cX4_rowRead 50 = .ok (.getfield 20, 3) := by decide +kernel
theorem dX4_rowRead_53 : decode cX4_rowRead 53 = .ok (.getfield 152, 3) := by decide +kernel
theorem dX4_rowRead_56 : decode cX4_rowRead 56 = .ok (.iload_n 1, 1) := by decide +kernel
theorem dX4_rowRead_57 : decode cX4_rowRead 57 = .ok (.iaload, 1) := by decide +kernel
theorem dX4_rowRead_58 : decode cX4_rowRead 58 = .ok (.ifCond .ne 7, 3) := by decide +kernel
theorem dX4_rowRead_61 : decode cX4_rowRead 61 = .ok (.iconst 1, 1) := by decide +kernel
theorem dX4_rowRead_62 : decode cX4_rowRead 62 = .ok (.goto 4, 3) := by decide +kernel
theorem dX4_rowRead_65 : decode cX4_rowRead 65 = .ok (.iconst 0, 1) := by decide +kernel
theorem dX4_rowRead_66 : decode cX4_rowRead 66 = .ok (.istore 4, 2) := by decide +kernel
theorem dX4_rowRead_68 : decode cX4_rowRead 68 = .ok (.iload 4, 2) := by decide +kernel
theorem dX4_rowRead_70 : decode cX4_rowRead 70 = .ok (.ifCond .ne 11, 3) := by decide +kernel
theorem dX4_rowRead_73 : decode cX4_rowRead 73 = .ok (.aload_n 0, 1) := by decide +kernel
theorem dX4_rowRead_74 : decode cX4_rowRead 74 = .ok (.iload_n 2, 1) := by decide +kernel
theorem dX4_rowRead_75 : decode cX4_rowRead 75 = .ok (.invokevirtual 166, 3) := by decide +kernel
theorem dX4_rowRead_78 : decode cX4_rowRead 78 = .ok (.ifCond .ne 11, 3) := by decide +kernel
theorem dX4_rowRead_81 : decode cX4_rowRead 81 = .ok (.aload_n 0, 1) := by decide +kernel
theorem dX4_rowRead_82 : decode cX4_rowRead 82 = .ok (.iload_n 2, 1) := by decide +kernel
theorem dX4_rowRead_83 : decode cX4_rowRead 83 = .ok (.invokevirtual 73, 3) := by decide +kernel
theorem dX4_rowRead_86 : decode cX4_rowRead 86 = .ok (.goto 4, 3) := by decide +kernel
theorem dX4_rowRead_89 : decode cX4_rowRead 89 = .ok (.iload_n 2, 1) := by decide +kernel
theorem dX4_rowRead_90 : decode cX4_rowRead 90 = .ok (.istore 5, 2) := by decide +kernel
theorem dX4_rowRead_92 : decode cX4_rowRead 92 = .ok (.aload_n 0, 1) := by decide +kernel
theorem dX4_rowRead_93 : decode cX4_rowRead 93 = .ok (.iload 5, 2) := by decide +kernel
theorem dX4_rowRead_95 : decode cX4_rowRead 95 = .ok (.invokevirtual 118, 3) := by decide +kernel
theorem dX4_rowRead_98 : decode cX4_rowRead 98 = .ok (.getfield 122, 3) := by decide +kernel
theorem dX4_rowRead_101 : decode cX4_rowRead 101 = .ok (.iload_n 1, 1) := by decide +kernel
theorem dX4_rowRead_102 : decode cX4_rowRead 102 = .ok (.iaload, 1) := by decide +kernel
theorem dX4_rowRead_103 : decode cX4_rowRead 103 = .ok (.iload_n 2, 1) := by decide +kernel
theorem dX4_rowRead_104 : decode cX4_rowRead 104 = .ok (.invokestatic 163, 3) := by decide +kernel
theorem dX4_rowRead_107 : decode cX4_rowRead 107 = .ok (.ireturn, 1) := by decide +kernel
theorem dX4_keysRead_0 : decode cX4_keysRead 0 = .ok (.iconst 0, 1) := by decide +kernel
theorem dX4_keysRead_1 : decode cX4_keysRead 1 = .ok (.istore_n 2, 1) := by decide +kernel
theorem dX4_keysRead_2 : decode cX4_keysRead 2 = .ok (.iconst 0, 1) := by decide +kernel
theorem dX4_keysRead_3 : decode cX4_keysRead 3 = .ok (.istore_n 3, 1) := by decide +kernel
theorem dX4_keysRead_4 : decode cX4_keysRead 4 = .ok (.iload_n 3, 1) := by decide +kernel
theorem dX4_keysRead_5 : decode cX4_keysRead 5 = .ok (.bipush 31, 2) := by decide +kernel
theorem dX4_keysRead_7 : decode cX4_keysRead 7 = .ok (.if_icmp .ge 25, 3) := by decide +kernel
theorem dX4_keysRead_10 : decode cX4_keysRead 10 = .ok (.aload_n 0, 1) := by decide +kernel
theorem dX4_keysRead_11 : decode cX4_keysRead 11 = .ok (.iload_n 3, 1) := by decide +kernel
theorem dX4_keysRead_12 : decode cX4_keysRead 12 = .ok (.iload_n 1, 1) := by decide +kernel
theorem dX4_keysRead_13 : decode cX4_keysRead 13 = .ok (.invokevirtual 170, 3) := by decide +kernel
theorem dX4_keysRead_16 : decode cX4_keysRead 16 = .ok (.iconst (-1), 1) := by decide +kernel
theorem dX4_keysRead_17 : decode cX4_keysRead 17 = .ok (.if_icmp .eq 9, 3) := by decide +kernel
theorem dX4_keysRead_20 : decode cX4_keysRead 20 = .ok (.iload_n 2, 1) := by decide +kernel
theorem dX4_keysRead_21 : decode cX4_keysRead 21 = .ok (.iconst 1, 1) := by decide +kernel
theorem dX4_keysRead_22 : decode cX4_keysRead 22 = .ok (.iload_n 3, 1) := by decide +kernel
theorem dX4_keysRead_23 : decode cX4_keysRead 23 = .ok (.ishl, 1) := by decide +kernel
theorem dX4_keysRead_24 : decode cX4_keysRead 24 = .ok (.ior, 1) := by decide +kernel
theorem dX4_keysRead_25 : decode cX4_keysRead 25 = .ok (.istore_n 2, 1) := by decide +kernel
theorem dX4_keysRead_26 : decode cX4_keysRead 26 = .ok (.iinc 3 1, 3) := by decide +kernel
theorem dX4_keysRead_29 : decode cX4_keysRead 29 = .ok (.goto (-25), 3) := by decide +kernel
theorem dX4_keysRead_32 : decode cX4_keysRead 32 = .ok (.iload_n 2, 1) := by decide +kernel
theorem dX4_keysRead_33 : decode cX4_keysRead 33 = .ok (.ireturn, 1) := by decide +kernel
theorem dX4_quarrelling_0 : decode cX4_quarrelling 0 = .ok (.iconst 0, 1) := by decide +kernel
theorem dX4_quarrelling_1 : decode cX4_quarrelling 1 = .ok (.istore_n 1, 1) := by decide +kernel
theorem dX4_quarrelling_2 : decode cX4_quarrelling 2 = .ok (.iconst 0, 1) := by decide +kernel
theorem dX4_quarrelling_3 : decode cX4_quarrelling 3 = .ok (.istore_n 2, 1) := by decide +kernel
theorem dX4_quarrelling_4 : decode cX4_quarrelling 4 = .ok (.iload_n 2, 1) := by decide +kernel
theorem dX4_quarrelling_5 : decode cX4_quarrelling 5 = .ok (.bipush 31, 2) := by decide +kernel
theorem dX4_quarrelling_7 : decode cX4_quarrelling 7 = .ok (.if_icmp .ge 34, 3) := by decide +kernel
theorem dX4_quarrelling_10 : decode cX4_quarrelling 10 = .ok (.aload_n 0, 1) := by decide +kernel
theorem dX4_quarrelling_11 : decode cX4_quarrelling 11 = .ok (.iload_n 2, 1) := by decide +kernel
theorem dX4_quarrelling_12 : decode cX4_quarrelling 12 = .ok (.iconst 0, 1) := by decide +kernel
theorem dX4_quarrelling_13 : decode cX4_quarrelling 13 = .ok (.invokevirtual 170, 3) := by decide +kernel
theorem dX4_quarrelling_16 : decode cX4_quarrelling 16 = .ok (.aload_n 0, 1) := by decide +kernel
theorem dX4_quarrelling_17 : decode cX4_quarrelling 17 = .ok (.iload_n 2, 1) := by decide +kernel
theorem dX4_quarrelling_18 : decode cX4_quarrelling 18 = .ok (.iconst 1, 1) := by decide +kernel
theorem dX4_quarrelling_19 : decode cX4_quarrelling 19 = .ok (.invokevirtual 170, 3) := by decide +kernel
theorem dX4_quarrelling_22 : decode cX4_quarrelling 22 = .ok (.iconst 0, 1) := by decide +kernel
theorem dX4_quarrelling_23 : decode cX4_quarrelling 23 = .ok (.invokestatic 163, 3) := by decide +kernel
theorem dX4_quarrelling_26 : decode cX4_quarrelling 26 = .ok (.if_icmp .eq 9, 3) := by decide +kernel
theorem dX4_quarrelling_29 : decode cX4_quarrelling 29 = .ok (.iload_n 1, 1) := by decide +kernel
theorem dX4_quarrelling_30 : decode cX4_quarrelling 30 = .ok (.iconst 1, 1) := by decide +kernel
theorem dX4_quarrelling_31 : decode cX4_quarrelling 31 = .ok (.iload_n 2, 1) := by decide +kernel
theorem dX4_quarrelling_32 : decode cX4_quarrelling 32 = .ok (.ishl, 1) := by decide +kernel
theorem dX4_quarrelling_33 : decode cX4_quarrelling 33 = .ok (.ior, 1) := by decide +kernel
theorem dX4_quarrelling_34 : decode cX4_quarrelling 34 = .ok (.istore_n 1, 1) := by decide +kernel
theorem dX4_quarrelling_35 : decode cX4_quarrelling 35 = .ok (.iinc 2 1, 3) := by decide +kernel
theorem dX4_quarrelling_38 : decode cX4_quarrelling 38 = .ok (.goto (-34), 3) := by decide +kernel
theorem dX4_quarrelling_41 : decode cX4_quarrelling 41 = .ok (.iload_n 1, 1) := by decide +kernel
theorem dX4_quarrelling_42 : decode cX4_quarrelling 42 = .ok (.ireturn, 1) := by decide +kernel
theorem dX4_differing_0 : decode cX4_differing 0 = .ok (.iconst 0, 1) := by decide +kernel
theorem dX4_differing_1 : decode cX4_differing 1 = .ok (.istore_n 1, 1) := by decide +kernel
theorem dX4_differing_2 : decode cX4_differing 2 = .ok (.iconst 0, 1) := by decide +kernel
theorem dX4_differing_3 : decode cX4_differing 3 = .ok (.istore_n 2, 1) := by decide +kernel
theorem dX4_differing_4 : decode cX4_differing 4 = .ok (.iload_n 2, 1) := by decide +kernel
theorem dX4_differing_5 : decode cX4_differing 5 = .ok (.bipush 31, 2) := by decide +kernel
theorem dX4_differing_7 : decode cX4_differing 7 = .ok (.if_icmp .ge 71, 3) := by decide +kernel
theorem dX4_differing_10 : decode cX4_differing 10 = .ok (.aload_n 0, 1) := by decide +kernel
theorem dX4_differing_11 : decode cX4_differing 11 = .ok (.getfield 14, 3) := by decide +kernel
theorem dX4_differing_14 : decode cX4_differing 14 = .ok (.getfield 152, 3) := by decide +kernel
theorem dX4_differing_17 : decode cX4_differing 17 = .ok (.iload_n 2, 1) := by decide +kernel
theorem dX4_differing_18 : decode cX4_differing 18 = .ok (.iaload, 1) := by decide +kernel
theorem dX4_differing_19 : decode cX4_differing 19 = .ok (.aload_n 0, 1) := by decide +kernel
theorem dX4_differing_20 : decode cX4_differing 20 = .ok (.getfield 20, 3) := by decide +kernel
theorem dX4_differing_23 : decode cX4_differing 23 = .ok (.getfield 152, 3) := by decide +kernel
theorem dX4_differing_26 : decode cX4_differing 26 = .ok (.iload_n 2, 1) := by decide +kernel
theorem dX4_differing_27 : decode cX4_differing 27 = .ok (.iaload, 1) := by decide +kernel
theorem dX4_differing_28 : decode cX4_differing 28 = .ok (.if_icmp .eq 7, 3) := by decide +kernel
theorem dX4_differing_31 : decode cX4_differing 31 = .ok (.iconst 1, 1) := by decide +kernel
theorem dX4_differing_32 : decode cX4_differing 32 = .ok (.goto 4, 3) := by decide +kernel
theorem dX4_differing_35 : decode cX4_differing 35 = .ok (.iconst 0, 1) := by decide +kernel
theorem dX4_differing_36 : decode cX4_differing 36 = .ok (.istore_n 3, 1) := by decide +kernel
theorem dX4_differing_37 : decode cX4_differing 37 = .ok (.iload_n 3, 1) := by decide +kernel
theorem dX4_differing_38 : decode cX4_differing 38 = .ok (.ifCond .ne 28, 3) := by decide +kernel
theorem dX4_differing_41 : decode cX4_differing 41 = .ok (.aload_n 0, 1) := by decide +kernel
theorem dX4_differing_42 : decode cX4_differing 42 = .ok (.getfield 14, 3) := by decide +kernel
theorem dX4_differing_45 : decode cX4_differing 45 = .ok (.getfield 122, 3) := by decide +kernel
theorem dX4_differing_48 : decode cX4_differing 48 = .ok (.iload_n 2, 1) := by decide +kernel
theorem dX4_differing_49 : decode cX4_differing 49 = .ok (.iaload, 1) := by decide +kernel
theorem dX4_differing_50 : decode cX4_differing 50 = .ok (.aload_n 0, 1) := by decide +kernel
theorem dX4_differing_51 : decode cX4_differing 51 = .ok (.getfield 20, 3) := by decide +kernel
theorem dX4_differing_54 : decode cX4_differing 54 = .ok (.getfield 122, 3) := by decide +kernel
theorem dX4_differing_57 : decode cX4_differing 57 = .ok (.iload_n 2, 1) := by decide +kernel
theorem dX4_differing_58 : decode cX4_differing 58 = .ok (.iaload, 1) := by decide +kernel
theorem dX4_differing_59 : decode cX4_differing 59 = .ok (.iconst 0, 1) := by decide +kernel
theorem dX4_differing_60 : decode cX4_differing 60 = .ok (.invokestatic 163, 3) := by decide +kernel
theorem dX4_differing_63 : decode cX4_differing 63 = .ok (.if_icmp .eq 9, 3) := by decide +kernel
theorem dX4_differing_66 : decode cX4_differing 66 = .ok (.iload_n 1, 1) := by decide +kernel
theorem dX4_differing_67 : decode cX4_differing 67 = .ok (.iconst 1, 1) := by decide +kernel
theorem dX4_differing_68 : decode cX4_differing 68 = .ok (.iload_n 2, 1) := by decide +kernel
theorem dX4_differing_69 : decode cX4_differing 69 = .ok (.ishl, 1) := by decide +kernel
theorem dX4_differing_70 : decode cX4_differing 70 = .ok (.ior, 1) := by decide +kernel
theorem dX4_differing_71 : decode cX4_differing 71 = .ok (.istore_n 1, 1) := by decide +kernel
theorem dX4_differing_72 : decode cX4_differing 72 = .ok (.iinc 2 1, 3) := by decide +kernel
theorem dX4_differing_75 : decode cX4_differing 75 = .ok (.goto (-71), 3) := by decide +kernel
theorem dX4_differing_78 : decode cX4_differing 78 = .ok (.iload_n 1, 1) := by decide +kernel
theorem dX4_differing_79 : decode cX4_differing 79 = .ok (.ireturn, 1) := by decide +kernel
theorem dX4_startWalk_0 : decode cX4_startWalk 0 = .ok (.iload_n 1, 1) := by decide +kernel
theorem dX4_startWalk_1 : decode cX4_startWalk 1 = .ok (.iconst 3, 1) := by decide +kernel
theorem dX4_startWalk_2 : decode cX4_startWalk 2 = .ok (.invokestatic 100, 3) := by decide +kernel
theorem dX4_startWalk_5 : decode cX4_startWalk 5 = .ok (.ifCond .eq 11, 3) := by decide +kernel
theorem dX4_startWalk_8 : decode cX4_startWalk 8 = .ok (.iload_n 2, 1) := by decide +kernel
theorem dX4_startWalk_9 : decode cX4_startWalk 9 = .ok (.iconst 2, 1) := by decide +kernel
theorem dX4_startWalk_10 : decode cX4_startWalk 10 = .ok (.invokestatic 100, 3) := by decide +kernel
theorem dX4_startWalk_13 : decode cX4_startWalk 13 = .ok (.ifCond .ne 6, 3) := by decide +kernel
theorem dX4_startWalk_16 : decode cX4_startWalk 16 = .ok (.ldc 106, 2) := by decide +kernel
theorem dX4_startWalk_18 : decode cX4_startWalk 18 = .ok (.ireturn, 1) := by decide +kernel
theorem dX4_startWalk_19 : decode cX4_startWalk 19 = .ok (.aload_n 0, 1) := by decide +kernel
theorem dX4_startWalk_20 : decode cX4_startWalk 20 = .ok (.dup, 1) := by decide +kernel
theorem dX4_startWalk_21 : decode cX4_startWalk 21 = .ok (.getfield 66, 3) := by decide +kernel
theorem dX4_startWalk_24 : decode cX4_startWalk 24 = .ok (.iconst 1, 1) := by decide +kernel
theorem dX4_startWalk_25 : decode cX4_startWalk 25 = .ok (.iload_n 1, 1) := by decide +kernel
theorem dX4_startWalk_26 : decode cX4_startWalk 26 = .ok (.ishl, 1) := by decide +kernel
theorem dX4_startWalk_27 : decode cX4_startWalk 27 = .ok (.ior, 1) := by decide +kernel
theorem dX4_startWalk_28 : decode cX4_startWalk 28 = .ok (.putfield 66, 3) := by decide +kernel
theorem dX4_startWalk_31 : decode cX4_startWalk 31 = .ok (.aload_n 0, 1) := by decide +kernel
theorem dX4_startWalk_32 : decode cX4_startWalk 32 = .ok (.getfield 34, 3) := by decide +kernel
theorem dX4_startWalk_35 : decode cX4_startWalk 35 = .ok (.iload_n 1, 1) := by decide +kernel
theorem dX4_startWalk_36 : decode cX4_startWalk 36 = .ok (.iload_n 2, 1) := by decide +kernel
theorem dX4_startWalk_37 : decode cX4_startWalk 37 = .ok (.iastore, 1) := by decide +kernel
theorem dX4_startWalk_38 : decode cX4_startWalk 38 = .ok (.aload_n 0, 1) := by decide +kernel
theorem dX4_startWalk_39 : decode cX4_startWalk 39 = .ok (.getfield 37, 3) := by decide +kernel
theorem dX4_startWalk_42 : decode cX4_startWalk 42 = .ok (.iload_n 1, 1) := by decide +kernel
theorem dX4_startWalk_43 : decode cX4_startWalk 43 = .ok (.iconst (-1), 1) := by decide +kernel
theorem dX4_startWalk_44 : decode cX4_startWalk 44 = .ok (.iastore, 1) := by decide +kernel
theorem dX4_startWalk_45 : decode cX4_startWalk 45 = .ok (.aload_n 0, 1) := by decide +kernel
theorem dX4_startWalk_46 : decode cX4_startWalk 46 = .ok (.iload_n 2, 1) := by decide +kernel
theorem dX4_startWalk_47 : decode cX4_startWalk 47 = .ok (.invokevirtual 173, 3) := by decide +kernel
theorem dX4_startWalk_50 : decode cX4_startWalk 50 = .ok (.invokestatic 176, 3) := by decide +kernel
theorem dX4_startWalk_53 : decode cX4_startWalk 53 = .ok (.ireturn, 1) := by decide +kernel
theorem dX4_goOn_0 : decode cX4_goOn 0 = .ok (.iload_n 1, 1) := by decide +kernel
theorem dX4_goOn_1 : decode cX4_goOn 1 = .ok (.iconst 3, 1) := by decide +kernel
theorem dX4_goOn_2 : decode cX4_goOn 2 = .ok (.invokestatic 100, 3) := by decide +kernel
theorem dX4_goOn_5 : decode cX4_goOn 5 = .ok (.ifCond .ne 6, 3) := by decide +kernel
theorem dX4_goOn_8 : decode cX4_goOn 8 = .ok (.ldc 106, 2) := by decide +kernel
theorem dX4_goOn_10 : decode cX4_goOn 10 = .ok (.ireturn, 1) := by decide +kernel
theorem dX4_goOn_11 : decode cX4_goOn 11 = .ok (.aload_n 0, 1) := by decide +kernel
theorem dX4_goOn_12 : decode cX4_goOn 12 = .ok (.getfield 66, 3) := by decide +kernel
theorem dX4_goOn_15 : decode cX4_goOn 15 = .ok (.iconst 1, 1) := by decide +kernel
theorem dX4_goOn_16 : decode cX4_goOn 16 = .ok (.iload_n 1, 1) := by decide +kernel
theorem dX4_goOn_17 : decode cX4_goOn 17 = .ok (.ishl, 1) := by decide +kernel
theorem dX4_goOn_18 : decode cX4_goOn 18 = .ok (.iand, 1) := by decide +kernel
theorem dX4_goOn_19 : decode cX4_goOn 19 = .ok (.ifCond .ne 6, 3) := by decide +kernel
theorem dX4_goOn_22 : decode cX4_goOn 22 = .ok (.ldc 77, 2) := by decide +kernel
theorem dX4_goOn_24 : decode cX4_goOn 24 = .ok (.ireturn, 1) := by decide +kernel
theorem dX4_goOn_25 : decode cX4_goOn 25 = .ok (.aload_n 0, 1) := by decide +kernel
theorem dX4_goOn_26 : decode cX4_goOn 26 = .ok (.getfield 37, 3) := by decide +kernel
theorem dX4_goOn_29 : decode cX4_goOn 29 = .ok (.iload_n 1, 1) := by decide +kernel
theorem dX4_goOn_30 : decode cX4_goOn 30 = .ok (.iaload, 1) := by decide +kernel
theorem dX4_goOn_31 : decode cX4_goOn 31 = .ok (.iconst 1, 1) := by decide +kernel
theorem dX4_goOn_32 : decode cX4_goOn 32 = .ok (.iadd, 1) := by decide +kernel
theorem dX4_goOn_33 : decode cX4_goOn 33 = .ok (.istore_n 2, 1) := by decide +kernel
theorem dX4_goOn_34 : decode cX4_goOn 34 = .ok (.iload_n 2, 1) := by decide +kernel
theorem dX4_goOn_35 : decode cX4_goOn 35 = .ok (.bipush 31, 2) := by decide +kernel
theorem dX4_goOn_37 : decode cX4_goOn 37 = .ok (.if_icmp .ge 33, 3) := by decide +kernel
theorem dX4_goOn_40 : decode cX4_goOn 40 = .ok (.aload_n 0, 1) := by decide +kernel
theorem dX4_goOn_41 : decode cX4_goOn 41 = .ok (.iload_n 2, 1) := by decide +kernel
theorem dX4_goOn_42 : decode cX4_goOn 42 = .ok (.aload_n 0, 1) := by decide +kernel
theorem dX4_goOn_43 : decode cX4_goOn 43 = .ok (.getfield 34, 3) := by decide +kernel
theorem dX4_goOn_46 : decode cX4_goOn 46 = .ok (.iload_n 1, 1) := by decide +kernel
theorem dX4_goOn_47 : decode cX4_goOn 47 = .ok (.iaload, 1) := by decide +kernel
theorem dX4_goOn_48 : decode cX4_goOn 48 = .ok (.invokevirtual 170, 3) := by decide +kernel
theorem dX4_goOn_51 : decode cX4_goOn 51 = .ok (.iconst (-1), 1) := by decide +kernel
theorem dX4_goOn_52 : decode cX4_goOn 52 = .ok (.if_icmp .eq 12, 3) := by decide +kernel
theorem dX4_goOn_55 : decode cX4_goOn 55 = .ok (.aload_n 0, 1) := by decide +kernel
theorem dX4_goOn_56 : decode cX4_goOn 56 = .ok (.getfield 37, 3) := by decide +kernel
theorem dX4_goOn_59 : decode cX4_goOn 59 = .ok (.iload_n 1, 1) := by decide +kernel
theorem dX4_goOn_60 : decode cX4_goOn 60 = .ok (.iload_n 2, 1) := by decide +kernel
theorem dX4_goOn_61 : decode cX4_goOn 61 = .ok (.iastore, 1) := by decide +kernel
theorem dX4_goOn_62 : decode cX4_goOn 62 = .ok (.iload_n 2, 1) := by decide +kernel
theorem dX4_goOn_63 : decode cX4_goOn 63 = .ok (.ireturn, 1) := by decide +kernel
theorem dX4_goOn_64 : decode cX4_goOn 64 = .ok (.iinc 2 1, 3) := by decide +kernel
theorem dX4_goOn_67 : decode cX4_goOn 67 = .ok (.goto (-33), 3) := by decide +kernel
theorem dX4_goOn_70 : decode cX4_goOn 70 = .ok (.aload_n 0, 1) := by decide +kernel
theorem dX4_goOn_71 : decode cX4_goOn 71 = .ok (.dup, 1) := by decide +kernel
theorem dX4_goOn_72 : decode cX4_goOn 72 = .ok (.getfield 66, 3) := by decide +kernel
theorem dX4_goOn_75 : decode cX4_goOn 75 = .ok (.iconst 1, 1) := by decide +kernel
theorem dX4_goOn_76 : decode cX4_goOn 76 = .ok (.iload_n 1, 1) := by decide +kernel
theorem dX4_goOn_77 : decode cX4_goOn 77 = .ok (.ishl, 1) := by decide +kernel
theorem dX4_goOn_78 : decode cX4_goOn 78 = .ok (.iconst (-1), 1) := by decide +kernel
theorem dX4_goOn_79 : decode cX4_goOn 79 = .ok (.ixor, 1) := by decide +kernel
theorem dX4_goOn_80 : decode cX4_goOn 80 = .ok (.iand, 1) := by decide +kernel
theorem dX4_goOn_81 : decode cX4_goOn 81 = .ok (.putfield 66, 3) := by decide +kernel
theorem dX4_goOn_84 : decode cX4_goOn 84 = .ok (.bipush 31, 2) := by decide +kernel
theorem dX4_goOn_86 : decode cX4_goOn 86 = .ok (.ireturn, 1) := by decide +kernel
theorem dX5_init_0 : decode cX5_init 0 = .ok (.aload_n 0, 1) := by decide +kernel
theorem dX5_init_1 : decode cX5_init 1 = .ok (.invokespecial 1, 3) := by decide +kernel
theorem dX5_init_4 : decode cX5_init 4 = .ok (.aload_n 0, 1) := by decide +kernel
theorem dX5_init_5 : decode cX5_init 5 = .ok (.iconst 4, 1) := by decide +kernel
theorem dX5_init_6 : decode cX5_init 6 = .ok (.anewarray 9, 3) := by decide +kernel
theorem dX5_init_9 : decode cX5_init 9 = .ok (.putfield 11, 3) := by decide +kernel
theorem dX5_init_12 : decode cX5_init 12 = .ok (.aload_n 0, 1) := by decide +kernel
theorem dX5_init_13 : decode cX5_init 13 = .ok (.new 9, 3) := by decide +kernel
theorem dX5_init_16 : decode cX5_init 16 = .ok (.dup, 1) := by decide +kernel
theorem dX5_init_17 : decode cX5_init 17 = .ok (.invokespecial 15, 3) := by decide +kernel
theorem dX5_init_20 : decode cX5_init 20 = .ok (.putfield 16, 3) := by decide +kernel
theorem dX5_init_23 : decode cX5_init 23 = .ok (.aload_n 0, 1) := by decide +kernel
theorem dX5_init_24 : decode cX5_init 24 = .ok (.new 9, 3) := by decide +kernel
theorem dX5_init_27 : decode cX5_init 27 = .ok (.dup, 1) := by decide +kernel
theorem dX5_init_28 : decode cX5_init 28 = .ok (.invokespecial 15, 3) := by decide +kernel
theorem dX5_init_31 : decode cX5_init 31 = .ok (.putfield 20, 3) := by decide +kernel
theorem dX5_init_34 : decode cX5_init 34 = .ok (.aload_n 0, 1) := by decide +kernel
theorem dX5_init_35 : decode cX5_init 35 = .ok (.new 23, 3) := by decide +kernel
theorem dX5_init_38 : decode cX5_init 38 = .ok (.dup, 1) := by decide +kernel
theorem dX5_init_39 : decode cX5_init 39 = .ok (.invokespecial 25, 3) := by decide +kernel
theorem dX5_init_42 : decode cX5_init 42 = .ok (.putfield 26, 3) := by decide +kernel
theorem dX5_init_45 : decode cX5_init 45 = .ok (.iconst 0, 1) := by decide +kernel
theorem dX5_init_46 : decode cX5_init 46 = .ok (.istore_n 1, 1) := by decide +kernel
theorem dX5_init_47 : decode cX5_init 47 = .ok (.iload_n 1, 1) := by decide +kernel
theorem dX5_init_48 : decode cX5_init 48 = .ok (.iconst 4, 1) := by decide +kernel
theorem dX5_init_49 : decode cX5_init 49 = .ok (.if_icmp .ge 22, 3) := by decide +kernel
theorem dX5_init_52 : decode cX5_init 52 = .ok (.aload_n 0, 1) := by decide +kernel
theorem dX5_init_53 : decode cX5_init 53 = .ok (.getfield 11, 3) := by decide +kernel
theorem dX5_init_56 : decode cX5_init 56 = .ok (.iload_n 1, 1) := by decide +kernel
theorem dX5_init_57 : decode cX5_init 57 = .ok (.new 9, 3) := by decide +kernel
theorem dX5_init_60 : decode cX5_init 60 = .ok (.dup, 1) := by decide +kernel
theorem dX5_init_61 : decode cX5_init 61 = .ok (.invokespecial 15, 3) := by decide +kernel
theorem dX5_init_64 : decode cX5_init 64 = .ok (.aastore, 1) := by decide +kernel
theorem dX5_init_65 : decode cX5_init 65 = .ok (.iinc 1 1, 3) := by decide +kernel
theorem dX5_init_68 : decode cX5_init 68 = .ok (.goto (-21), 3) := by decide +kernel
theorem dX5_init_71 : decode cX5_init 71 = .ok (.return_, 1) := by decide +kernel
theorem dX5_begin_0 : decode cX5_begin 0 = .ok (.aload_n 0, 1) := by decide +kernel
theorem dX5_begin_1 : decode cX5_begin 1 = .ok (.aload_n 0, 1) := by decide +kernel
theorem dX5_begin_2 : decode cX5_begin 2 = .ok (.invokevirtual 30, 3) := by decide +kernel
theorem dX5_begin_5 : decode cX5_begin 5 = .ok (.invokevirtual 34, 3) := by decide +kernel
theorem dX5_begin_8 : decode cX5_begin 8 = .ok (.invokevirtual 38, 3) := by decide +kernel
theorem dX5_begin_11 : decode cX5_begin 11 = .ok (.ireturn, 1) := by decide +kernel
theorem dX5_turn_0 : decode cX5_turn 0 = .ok (.aload_n 0, 1) := by decide +kernel
theorem dX5_turn_1 : decode cX5_turn 1 = .ok (.aload_n 0, 1) := by decide +kernel
theorem dX5_turn_2 : decode cX5_turn 2 = .ok (.invokevirtual 30, 3) := by decide +kernel
theorem dX5_turn_5 : decode cX5_turn 5 = .ok (.invokevirtual 42, 3) := by decide +kernel
theorem dX5_turn_8 : decode cX5_turn 8 = .ok (.invokevirtual 38, 3) := by decide +kernel
theorem dX5_turn_11 : decode cX5_turn 11 = .ok (.ireturn, 1) := by decide +kernel
theorem dX5_back_0 : decode cX5_back 0 = .ok (.aload_n 0, 1) := by decide +kernel
theorem dX5_back_1 : decode cX5_back 1 = .ok (.aload_n 0, 1) := by decide +kernel
theorem dX5_back_2 : decode cX5_back 2 = .ok (.invokevirtual 30, 3) := by decide +kernel
theorem dX5_back_5 : decode cX5_back 5 = .ok (.invokevirtual 45, 3) := by decide +kernel
theorem dX5_back_8 : decode cX5_back 8 = .ok (.invokevirtual 38, 3) := by decide +kernel
theorem dX5_back_11 : decode cX5_back 11 = .ok (.ireturn, 1) := by decide +kernel
theorem dX5_drop_0 : decode cX5_drop 0 = .ok (.aload_n 0, 1) := by decide +kernel
theorem dX5_drop_1 : decode cX5_drop 1 = .ok (.aload_n 0, 1) := by decide +kernel
theorem dX5_drop_2 : decode cX5_drop 2 = .ok (.invokevirtual 30, 3) := by decide +kernel
theorem dX5_drop_5 : decode cX5_drop 5 = .ok (.invokevirtual 48, 3) := by decide +kernel
theorem dX5_drop_8 : decode cX5_drop 8 = .ok (.invokevirtual 38, 3) := by decide +kernel
theorem dX5_drop_11 : decode cX5_drop 11 = .ok (.ireturn, 1) := by decide +kernel
theorem dX5_writeOld_0 : decode cX5_writeOld 0 = .ok (.aload_n 0, 1) := by decide +kernel
theorem dX5_writeOld_1 : decode cX5_writeOld 1 = .ok (.aload_n 0, 1) := by decide +kernel
theorem dX5_writeOld_2 : decode cX5_writeOld 2 = .ok (.invokevirtual 30, 3) := by decide +kernel
theorem dX5_writeOld_5 : decode cX5_writeOld 5 = .ok (.iload_n 1, 1) := by decide +kernel
theorem dX5_writeOld_6 : decode cX5_writeOld 6 = .ok (.iload_n 2, 1) := by decide +kernel
theorem dX5_writeOld_7 : decode cX5_writeOld 7 = .ok (.iload_n 3, 1) := by decide +kernel
theorem dX5_writeOld_8 : decode cX5_writeOld 8 = .ok (.iload 4, 2) := by decide +kernel
theorem dX5_writeOld_10 : decode cX5_writeOld 10 = .ok (.invokevirtual 51, 3) := by decide +kernel
theorem dX5_writeOld_13 : decode cX5_writeOld 13 = .ok (.invokevirtual 38, 3) := by decide +kernel
theorem dX5_writeOld_16 : decode cX5_writeOld 16 = .ok (.ireturn, 1) := by decide +kernel
theorem dX5_writeNew_0 : decode cX5_writeNew 0 = .ok (.aload_n 0, 1) := by decide +kernel
theorem dX5_writeNew_1 : decode cX5_writeNew 1 = .ok (.aload_n 0, 1) := by decide +kernel
theorem dX5_writeNew_2 : decode cX5_writeNew 2 = .ok (.invokevirtual 30, 3) := by decide +kernel
theorem dX5_writeNew_5 : decode cX5_writeNew 5 = .ok (.iload_n 1, 1) := by decide +kernel
theorem dX5_writeNew_6 : decode cX5_writeNew 6 = .ok (.iload_n 2, 1) := by decide +kernel
theorem dX5_writeNew_7 : decode cX5_writeNew 7 = .ok (.iload_n 3, 1) := by decide +kernel
theorem dX5_writeNew_8 : decode cX5_writeNew 8 = .ok (.invokevirtual 55, 3) := by decide +kernel
theorem dX5_writeNew_11 : decode cX5_writeNew 11 = .ok (.invokevirtual 38, 3) := by decide +kernel
theorem dX5_writeNew_14 : decode cX5_writeNew 14 = .ok (.ireturn, 1) := by decide +kernel
theorem dX5_remove_0 : decode cX5_remove 0 = .ok (.aload_n 0, 1) := by decide +kernel
theorem dX5_remove_1 : decode cX5_remove 1 = .ok (.aload_n 0, 1) := by decide +kernel
theorem dX5_remove_2 : decode cX5_remove 2 = .ok (.invokevirtual 30, 3) := by decide +kernel
theorem dX5_remove_5 : decode cX5_remove 5 = .ok (.iload_n 1, 1) := by decide +kernel
theorem dX5_remove_6 : decode cX5_remove 6 = .ok (.invokevirtual 59, 3) := by decide +kernel
theorem dX5_remove_9 : decode cX5_remove 9 = .ok (.invokevirtual 38, 3) := by decide +kernel
theorem dX5_remove_12 : decode cX5_remove 12 = .ok (.ireturn, 1) := by decide +kernel
theorem dX5_drain_0 : decode cX5_drain 0 = .ok (.aload_n 0, 1) := by decide +kernel
theorem dX5_drain_1 : decode cX5_drain 1 = .ok (.aload_n 0, 1) := by decide +kernel
theorem dX5_drain_2 : decode cX5_drain 2 = .ok (.invokevirtual 30, 3) := by decide +kernel
theorem dX5_drain_5 : decode cX5_drain 5 = .ok (.iload_n 1, 1) := by decide +kernel
theorem dX5_drain_6 : decode cX5_drain 6 = .ok (.invokevirtual 62, 3) := by decide +kernel
theorem dX5_drain_9 : decode cX5_drain 9 = .ok (.invokevirtual 38, 3) := by decide +kernel
theorem dX5_drain_12 : decode cX5_drain 12 = .ok (.ireturn, 1) := by decide +kernel
theorem dX5_backfill_0 : decode cX5_backfill 0 = .ok (.aload_n 0, 1) := by decide +kernel
theorem dX5_backfill_1 : decode cX5_backfill 1 = .ok (.aload_n 0, 1) := by decide +kernel
theorem dX5_backfill_2 : decode cX5_backfill 2 = .ok (.invokevirtual 30, 3) := by decide +kernel
theorem dX5_backfill_5 : decode cX5_backfill 5 = .ok (.iload_n 1, 1) := by decide +kernel
theorem dX5_backfill_6 : decode cX5_backfill 6 = .ok (.invokevirtual 65, 3) := by decide +kernel
theorem dX5_backfill_9 : decode cX5_backfill 9 = .ok (.invokevirtual 38, 3) := by decide +kernel
theorem dX5_backfill_12 : decode cX5_backfill 12 = .ok (.ireturn, 1) := by decide +kernel
theorem dX5_crash_0 : decode cX5_crash 0 = .ok (.aload_n 0, 1) := by decide +kernel
theorem dX5_crash_1 : decode cX5_crash 1 = .ok (.aload_n 0, 1) := by decide +kernel
theorem dX5_crash_2 : decode cX5_crash 2 = .ok (.invokevirtual 30, 3) := by decide +kernel
theorem dX5_crash_5 : decode cX5_crash 5 = .ok (.invokevirtual 68, 3) := by decide +kernel
theorem dX5_crash_8 : decode cX5_crash 8 = .ok (.invokevirtual 38, 3) := by decide +kernel
theorem dX5_crash_11 : decode cX5_crash 11 = .ok (.ireturn, 1) := by decide +kernel
theorem dX5_mend_0 : decode cX5_mend 0 = .ok (.aload_n 0, 1) := by decide +kernel
theorem dX5_mend_1 : decode cX5_mend 1 = .ok (.aload_n 0, 1) := by decide +kernel
theorem dX5_mend_2 : decode cX5_mend 2 = .ok (.invokevirtual 30, 3) := by decide +kernel
theorem dX5_mend_5 : decode cX5_mend 5 = .ok (.iload_n 1, 1) := by decide +kernel
theorem dX5_mend_6 : decode cX5_mend 6 = .ok (.invokevirtual 71, 3) := by decide +kernel
theorem dX5_mend_9 : decode cX5_mend 9 = .ok (.invokevirtual 38, 3) := by decide +kernel
theorem dX5_mend_12 : decode cX5_mend 12 = .ok (.ireturn, 1) := by decide +kernel
theorem dX5_read_0 : decode cX5_read 0 = .ok (.iload_n 2, 1) := by decide +kernel
theorem dX5_read_1 : decode cX5_read 1 = .ok (.ifCond .ne 7, 3) := by decide +kernel
theorem dX5_read_4 : decode cX5_read 4 = .ok (.iconst 3, 1) := by decide +kernel
theorem dX5_read_5 : decode cX5_read 5 = .ok (.goto 4, 3) := by decide +kernel
theorem dX5_read_8 : decode cX5_read 8 = .ok (.iconst 2, 1) := by decide +kernel
theorem dX5_read_9 : decode cX5_read 9 = .ok (.istore 4, 2) := by decide +kernel
theorem dX5_read_11 : decode cX5_read 11 = .ok (.iload_n 1, 1) := by decide +kernel
theorem dX5_read_12 : decode cX5_read 12 = .ok (.bipush 31, 2) := by decide +kernel
theorem dX5_read_14 : decode cX5_read 14 = .ok (.invokestatic 74, 3) := by decide +kernel
theorem dX5_read_17 : decode cX5_read 17 = .ok (.ifCond .eq 20, 3) := by decide +kernel
theorem dX5_read_20 : decode cX5_read 20 = .ok (.iload_n 2, 1) := by decide +kernel
theorem dX5_read_21 : decode cX5_read 21 = .ok (.iconst 2, 1) := by decide +kernel
theorem dX5_read_22 : decode cX5_read 22 = .ok (.invokestatic 74, 3) := by decide +kernel
theorem dX5_read_25 : decode cX5_read 25 = .ok (.ifCond .eq 12, 3) := by decide +kernel
theorem dX5_read_28 : decode cX5_read 28 = .ok (.iload_n 3, 1) := by decide +kernel
theorem dX5_read_29 : decode cX5_read 29 = .ok (.iload 4, 2) := by decide +kernel
theorem dX5_read_31 : decode cX5_read 31 = .ok (.invokestatic 74, 3) := by decide +kernel
theorem dX5_read_34 : decode cX5_read 34 = .ok (.ifCond .ne 6, 3) := by decide +kernel
theorem dX5_read_37 : decode cX5_read 37 = .ok (.ldc 78, 2) := by decide +kernel
theorem dX5_read_39 : decode cX5_read 39 = .ok (.ireturn, 1) := by decide +kernel
theorem dX5_read_40 : decode cX5_read 40 = .ok (.aload_n 0, 1) := by decide +kernel
theorem dX5_read_41 : decode cX5_read 41 = .ok (.getfield 16, 3) := by decide +kernel
theorem dX5_read_44 : decode cX5_read 44 = .ok (.iload_n 1, 1) := by decide +kernel
theorem dX5_read_45 : decode cX5_read 45 = .ok (.iload_n 2, 1) := by decide +kernel
theorem dX5_read_46 : decode cX5_read 46 = .ok (.invokevirtual 79, 3) := by decide +kernel
theorem dX5_read_49 : decode cX5_read 49 = .ok (.istore 5, 2) := by decide +kernel
theorem dX5_read_51 : decode cX5_read 51 = .ok (.iload 5, 2) := by decide +kernel
theorem dX5_read_53 : decode cX5_read 53 = .ok (.iconst (-1), 1) := by decide +kernel
theorem dX5_read_54 : decode cX5_read 54 = .ok (.if_icmp .ne 8, 3) := by decide +kernel
theorem dX5_read_57 : decode cX5_read 57 = .ok (.ldc 83, 2) := by decide +kernel
theorem dX5_read_59 : decode cX5_read 59 = .ok (.goto 10, 3) := by decide +kernel
theorem dX5_read_62 : decode cX5_read 62 = .ok (.iload 5, 2) := by decide +kernel
theorem dX5_read_64 : decode cX5_read 64 = .ok (.iload_n 2, 1) := by decide +kernel
theorem dX5_read_65 : decode cX5_read 65 = .ok (.iload_n 3, 1) := by decide +kernel
theorem dX5_read_66 : decode cX5_read 66 = .ok (.invokestatic 84, 3) := by decide +kernel
theorem dX5_read_69 : decode cX5_read 69 = .ok (.ireturn, 1) := by decide +kernel
theorem dX5_shapeOf_0 : decode cX5_shapeOf 0 = .ok (.iload_n 1, 1) := by decide +kernel
theorem dX5_shapeOf_1 : decode cX5_shapeOf 1 = .ok (.bipush 31, 2) := by decide +kernel
theorem dX5_shapeOf_3 : decode cX5_shapeOf 3 = .ok (.invokestatic 74, 3) := by decide +kernel
theorem dX5_shapeOf_6 : decode cX5_shapeOf 6 = .ok (.ifCond .eq 19, 3) := by decide +kernel
theorem dX5_shapeOf_9 : decode cX5_shapeOf 9 = .ok (.iload_n 2, 1) := by decide +kernel
theorem dX5_shapeOf_10 : decode cX5_shapeOf 10 = .ok (.iconst 2, 1) := by decide +kernel
theorem dX5_shapeOf_11 : decode cX5_shapeOf 11 = .ok (.invokestatic 74, 3) := by decide +kernel
theorem dX5_shapeOf_14 : decode cX5_shapeOf 14 = .ok (.ifCond .eq 11, 3) := by decide +kernel
theorem dX5_shapeOf_17 : decode cX5_shapeOf 17 = .ok (.iload_n 3, 1) := by decide +kernel
theorem dX5_shapeOf_18 : decode cX5_shapeOf 18 = .ok (.iconst 5, 1) := by decide +kernel
theorem dX5_shapeOf_19 : decode cX5_shapeOf 19 = .ok (.invokestatic 74, 3) := by decide +kernel
theorem dX5_shapeOf_22 : decode cX5_shapeOf 22 = .ok (.ifCond .ne 6, 3) := by decide +kernel
theorem dX5_shapeOf_25 : decode cX5_shapeOf 25 = .ok (.ldc 78, 2) := by decide +kernel
theorem dX5_shapeOf_27 : decode cX5_shapeOf 27 = .ok (.ireturn, 1) := by decide +kernel
theorem dX5_shapeOf_28 : decode cX5_shapeOf 28 = .ok (.aload_n 0, 1) := by decide +kernel
theorem dX5_shapeOf_29 : decode cX5_shapeOf 29 = .ok (.getfield 16, 3) := by decide +kernel
theorem dX5_shapeOf_32 : decode cX5_shapeOf 32 = .ok (.iload_n 2, 1) := by decide +kernel
theorem dX5_shapeOf_33 : decode cX5_shapeOf 33 = .ok (.invokevirtual 89, 3) := by decide +kernel
theorem dX5_shapeOf_36 : decode cX5_shapeOf 36 = .ok (.ifCond .ne 6, 3) := by decide +kernel
theorem dX5_shapeOf_39 : decode cX5_shapeOf 39 = .ok (.ldc 93, 2) := by decide +kernel
theorem dX5_shapeOf_41 : decode cX5_shapeOf 41 = .ok (.ireturn, 1) := by decide +kernel
theorem dX5_shapeOf_42 : decode cX5_shapeOf 42 = .ok (.aload_n 0, 1) := by decide +kernel
theorem dX5_shapeOf_43 : decode cX5_shapeOf 43 = .ok (.getfield 16, 3) := by decide +kernel
theorem dX5_shapeOf_46 : decode cX5_shapeOf 46 = .ok (.iload_n 2, 1) := by decide +kernel
theorem dX5_shapeOf_47 : decode cX5_shapeOf 47 = .ok (.invokevirtual 94, 3) := by decide +kernel
theorem dX5_shapeOf_50 : decode cX5_shapeOf 50 = .ok (.astore 4, 2) := by decide +kernel
theorem dX5_shapeOf_52 : decode cX5_shapeOf 52 = .ok (.aload 4, 2) := by decide +kernel
theorem dX5_shapeOf_54 : decode cX5_shapeOf 54 = .ok (.getfield 98, 3) := by decide +kernel
theorem dX5_shapeOf_57 : decode cX5_shapeOf 57 = .ok (.iload_n 1, 1) := by decide +kernel
theorem dX5_shapeOf_58 : decode cX5_shapeOf 58 = .ok (.iaload, 1) := by decide +kernel
theorem dX5_shapeOf_59 : decode cX5_shapeOf 59 = .ok (.istore 5, 2) := by decide +kernel
theorem dX5_shapeOf_61 : decode cX5_shapeOf 61 = .ok (.iload_n 3, 1) := by decide +kernel
theorem dX5_shapeOf_62 : decode cX5_shapeOf 62 = .ok (.ifCond .ne 11, 3) := by decide +kernel
theorem dX5_shapeOf_65 : decode cX5_shapeOf 65 = .ok (.aload 4, 2) := by decide +kernel
theorem dX5_shapeOf_67 : decode cX5_shapeOf 67 = .ok (.getfield 104, 3) := by decide +kernel
theorem dX5_shapeOf_70 : decode cX5_shapeOf 70 = .ok (.iload_n 1, 1) := by decide +kernel
theorem dX5_shapeOf_71 : decode cX5_shapeOf 71 = .ok (.iaload, 1) := by decide +kernel
theorem dX5_shapeOf_72 : decode cX5_shapeOf 72 = .ok (.ireturn, 1) := by decide +kernel
theorem dX5_shapeOf_73 : decode cX5_shapeOf 73 = .ok (.iload_n 3, 1) := by decide +kernel
theorem dX5_shapeOf_74 : decode cX5_shapeOf 74 = .ok (.iconst 1, 1) := by decide +kernel
theorem dX5_shapeOf_75 : decode cX5_shapeOf 75 = .ok (.if_icmp .ne 15, 3) := by decide +kernel
theorem dX5_shapeOf_78 : decode cX5_shapeOf 78 = .ok (.iload 5, 2) := by decide +kernel
theorem dX5_shapeOf_80 : decode cX5_shapeOf 80 = .ok (.iconst (-1), 1) := by decide +kernel
theorem dX5_shapeOf_81 : decode cX5_shapeOf 81 = .ok (.if_icmp .ne 7, 3) := by decide +kernel
theorem dX5_shapeOf_84 : decode cX5_shapeOf 84 = .ok (.iconst 0, 1) := by decide +kernel
theorem dX5_shapeOf_85 : decode cX5_shapeOf 85 = .ok (.goto 4, 3) := by decide +kernel
theorem dX5_shapeOf_88 : decode cX5_shapeOf 88 = .ok (.iconst 1, 1) := by decide +kernel
theorem dX5_shapeOf_89 : decode cX5_shapeOf 89 = .ok (.ireturn, 1) := by decide +kernel
theorem dX5_shapeOf_90 : decode cX5_shapeOf 90 = .ok (.iload 5, 2) := by decide +kernel
theorem dX5_shapeOf_92 : decode cX5_shapeOf 92 = .ok (.iconst (-1), 1) := by decide +kernel
theorem dX5_shapeOf_93 : decode cX5_shapeOf 93 = .ok (.if_icmp .eq 13, 3) := by decide +kernel
theorem dX5_shapeOf_96 : decode cX5_shapeOf 96 = .ok (.iload_n 3, 1) := by decide +kernel
theorem dX5_shapeOf_97 : decode cX5_shapeOf 97 = .ok (.iconst 4, 1) := by decide +kernel
theorem dX5_shapeOf_98 : decode cX5_shapeOf 98 = .ok (.if_icmp .ne 11, 3) := by decide +kernel
theorem dX5_shapeOf_101 : decode cX5_shapeOf 101 = .ok (.iload_n 2, 1) := by decide +kernel
theorem dX5_shapeOf_102 : decode cX5_shapeOf 102 = .ok (.iconst 1, 1) := by decide +kernel
theorem dX5_shapeOf_103 : decode cX5_shapeOf 103 = .ok (.if_icmp .ne 6, 3) := by decide +kernel
theorem dX5_shapeOf_106 : decode cX5_shapeOf 106 = .ok (.ldc 83, 2) := by decide +kernel
theorem dX5_shapeOf_108 : decode cX5_shapeOf 108 = .ok (.ireturn, 1) := by decide +kernel
theorem dX5_shapeOf_109 : decode cX5_shapeOf 109 = .ok (.iload 5, 2) := by decide +kernel
theorem dX5_shapeOf_111 : decode cX5_shapeOf 111 = .ok (.iload_n 2, 1) := by decide +kernel
theorem dX5_shapeOf_112 : decode cX5_shapeOf 112 = .ok (.iload_n 3, 1) := by decide +kernel
theorem dX5_shapeOf_113 : decode cX5_shapeOf 113 = .ok (.iconst 2, 1) := by decide +kernel
theorem dX5_shapeOf_114 : decode cX5_shapeOf 114 = .ok (.isub, 1) := by decide +kernel
theorem dX5_shapeOf_115 : decode cX5_shapeOf 115 = .ok (.invokestatic 84, 3) := by decide +kernel
theorem dX5_shapeOf_118 : decode cX5_shapeOf 118 = .ok (.ireturn, 1) := by decide +kernel
theorem dX5_keys_0 : decode cX5_keys 0 = .ok (.iload_n 1, 1) := by decide +kernel
theorem dX5_keys_1 : decode cX5_keys 1 = .ok (.iconst 2, 1) := by decide +kernel
theorem dX5_keys_2 : decode cX5_keys 2 = .ok (.invokestatic 74, 3) := by decide +kernel
theorem dX5_keys_5 : decode cX5_keys 5 = .ok (.ifCond .eq 14, 3) := by decide +kernel
theorem dX5_keys_8 : decode cX5_keys 8 = .ok (.aload_n 0, 1) := by decide +kernel
theorem dX5_keys_9 : decode cX5_keys 9 = .ok (.getfield 16, 3) := by decide +kernel
theorem dX5_keys_12 : decode cX5_keys 12 = .ok (.iload_n 1, 1) := by decide +kernel
theorem dX5_keys_13 : decode cX5_keys 13 = .ok (.invokevirtual 125, 3) := by decide +kernel
theorem dX5_keys_16 : decode cX5_keys 16 = .ok (.goto 5, 3) := by decide +kernel
theorem dX5_keys_19 : decode cX5_keys 19 = .ok (.ldc 78, 2) := by decide +kernel
theorem dX5_keys_21 : decode cX5_keys 21 = .ok (.ireturn, 1) := by decide +kernel
theorem dX5_check_0 : decode cX5_check 0 = .ok (.aload_n 0, 1) := by decide +kernel
theorem dX5_check_1 : decode cX5_check 1 = .ok (.getfield 16, 3) := by decide +kernel
theorem dX5_check_4 : decode cX5_check 4 = .ok (.invokevirtual 128, 3) := by decide +kernel
theorem dX5_check_7 : decode cX5_check 7 = .ok (.ifCond .eq 13, 3) := by decide +kernel
theorem dX5_check_10 : decode cX5_check 10 = .ok (.aload_n 0, 1) := by decide +kernel
theorem dX5_check_11 : decode cX5_check 11 = .ok (.getfield 16, 3) := by decide +kernel
theorem dX5_check_14 : decode cX5_check 14 = .ok (.invokevirtual 132, 3) := by decide +kernel
theorem dX5_check_17 : decode cX5_check 17 = .ok (.goto 5, 3) := by decide +kernel
theorem dX5_check_20 : decode cX5_check 20 = .ok (.ldc 93, 2) := by decide +kernel
theorem dX5_check_22 : decode cX5_check 22 = .ok (.ireturn, 1) := by decide +kernel
theorem dX5_quarrel_0 : decode cX5_quarrel 0 = .ok (.aload_n 0, 1) := by decide +kernel
theorem dX5_quarrel_1 : decode cX5_quarrel 1 = .ok (.getfield 16, 3) := by decide +kernel
theorem dX5_quarrel_4 : decode cX5_quarrel 4 = .ok (.invokevirtual 135, 3) := by decide +kernel
theorem dX5_quarrel_7 : decode cX5_quarrel 7 = .ok (.ireturn, 1) := by decide +kernel
theorem dX5_walk_0 : decode cX5_walk 0 = .ok (.aload_n 0, 1) := by decide +kernel
theorem dX5_walk_1 : decode cX5_walk 1 = .ok (.aload_n 0, 1) := by decide +kernel
theorem dX5_walk_2 : decode cX5_walk 2 = .ok (.invokevirtual 30, 3) := by decide +kernel
theorem dX5_walk_5 : decode cX5_walk 5 = .ok (.iload_n 1, 1) := by decide +kernel
theorem dX5_walk_6 : decode cX5_walk 6 = .ok (.iload_n 2, 1) := by decide +kernel
theorem dX5_walk_7 : decode cX5_walk 7 = .ok (.invokevirtual 141, 3) := by decide +kernel
theorem dX5_walk_10 : decode cX5_walk 10 = .ok (.invokevirtual 38, 3) := by decide +kernel
theorem dX5_walk_13 : decode cX5_walk 13 = .ok (.ireturn, 1) := by decide +kernel
theorem dX5_step_0 : decode cX5_step 0 = .ok (.aload_n 0, 1) := by decide +kernel
theorem dX5_step_1 : decode cX5_step 1 = .ok (.aload_n 0, 1) := by decide +kernel
theorem dX5_step_2 : decode cX5_step 2 = .ok (.invokevirtual 30, 3) := by decide +kernel
theorem dX5_step_5 : decode cX5_step 5 = .ok (.iload_n 1, 1) := by decide +kernel
theorem dX5_step_6 : decode cX5_step 6 = .ok (.invokevirtual 144, 3) := by decide +kernel
theorem dX5_step_9 : decode cX5_step 9 = .ok (.invokevirtual 38, 3) := by decide +kernel
theorem dX5_step_12 : decode cX5_step 12 = .ok (.ireturn, 1) := by decide +kernel
theorem dX5_count_0 : decode cX5_count 0 = .ok (.iload_n 1, 1) := by decide +kernel
theorem dX5_count_1 : decode cX5_count 1 = .ok (.tableswitch 207 0 12 #[67, 75, 83, 107, 118, 129, 140, 151, 162, 178, 186, 194, 199], 67) := by decide +kernel
theorem dX5_count_68 : decode cX5_count 68 = .ok (.aload_n 0, 1) := by decide +kernel
theorem dX5_count_69 : decode cX5_count 69 = .ok (.getfield 16, 3) := by decide +kernel
theorem dX5_count_72 : decode cX5_count 72 = .ok (.getfield 147, 3) := by decide +kernel
theorem dX5_count_75 : decode cX5_count 75 = .ok (.ireturn, 1) := by decide +kernel
theorem dX5_count_76 : decode cX5_count 76 = .ok (.aload_n 0, 1) := by decide +kernel
theorem dX5_count_77 : decode cX5_count 77 = .ok (.getfield 16, 3) := by decide +kernel
theorem dX5_count_80 : decode cX5_count 80 = .ok (.getfield 150, 3) := by decide +kernel
theorem dX5_count_83 : decode cX5_count 83 = .ok (.ireturn, 1) := by decide +kernel
theorem dX5_count_84 : decode cX5_count 84 = .ok (.aload_n 0, 1) := by decide +kernel
theorem dX5_count_85 : decode cX5_count 85 = .ok (.getfield 16, 3) := by decide +kernel
theorem dX5_count_88 : decode cX5_count 88 = .ok (.getfield 147, 3) := by decide +kernel
theorem dX5_count_91 : decode cX5_count 91 = .ok (.iconst 1, 1) := by decide +kernel
theorem dX5_count_92 : decode cX5_count 92 = .ok (.if_icmp .ne 13, 3) := by decide +kernel
theorem dX5_count_95 : decode cX5_count 95 = .ok (.aload_n 0, 1) := by decide +kernel
theorem dX5_count_96 : decode cX5_count 96 = .ok (.getfield 16, 3) := by decide +kernel
theorem dX5_count_99 : decode cX5_count 99 = .ok (.getfield 153, 3) := by decide +kernel
theorem dX5_count_102 : decode cX5_count 102 = .ok (.goto 5, 3) := by decide +kernel
theorem dX5_count_105 : decode cX5_count 105 = .ok (.ldc 83, 2) := by decide +kernel
theorem dX5_count_107 : decode cX5_count 107 = .ok (.ireturn, 1) := by decide +kernel
theorem dX5_count_108 : decode cX5_count 108 = .ok (.aload_n 0, 1) := by decide +kernel
theorem dX5_count_109 : decode cX5_count 109 = .ok (.getfield 16, 3) := by decide +kernel
theorem dX5_count_112 : decode cX5_count 112 = .ok (.getfield 107, 3) := by decide +kernel
theorem dX5_count_115 : decode cX5_count 115 = .ok (.getfield 111, 3) := by decide +kernel
theorem dX5_count_118 : decode cX5_count 118 = .ok (.ireturn, 1) := by decide +kernel
theorem dX5_count_119 : decode cX5_count 119 = .ok (.aload_n 0, 1) := by decide +kernel
theorem dX5_count_120 : decode cX5_count 120 = .ok (.getfield 16, 3) := by decide +kernel
theorem dX5_count_123 : decode cX5_count 123 = .ok (.getfield 156, 3) := by decide +kernel
theorem dX5_count_126 : decode cX5_count 126 = .ok (.invokevirtual 160, 3) := by decide +kernel
theorem dX5_count_129 : decode cX5_count 129 = .ok (.ireturn, 1) := by decide +kernel
theorem dX5_count_130 : decode cX5_count 130 = .ok (.aload_n 0, 1) := by decide +kernel
theorem dX5_count_131 : decode cX5_count 131 = .ok (.getfield 16, 3) := by decide +kernel
theorem dX5_count_134 : decode cX5_count 134 = .ok (.getfield 163, 3) := by decide +kernel
theorem dX5_count_137 : decode cX5_count 137 = .ok (.invokevirtual 160, 3) := by decide +kernel
theorem dX5_count_140 : decode cX5_count 140 = .ok (.ireturn, 1) := by decide +kernel
theorem dX5_count_141 : decode cX5_count 141 = .ok (.aload_n 0, 1) := by decide +kernel
theorem dX5_count_142 : decode cX5_count 142 = .ok (.getfield 16, 3) := by decide +kernel
theorem dX5_count_145 : decode cX5_count 145 = .ok (.getfield 163, 3) := by decide +kernel
theorem dX5_count_148 : decode cX5_count 148 = .ok (.invokevirtual 166, 3) := by decide +kernel
theorem dX5_count_151 : decode cX5_count 151 = .ok (.ireturn, 1) := by decide +kernel
theorem dX5_count_152 : decode cX5_count 152 = .ok (.aload_n 0, 1) := by decide +kernel
theorem dX5_count_153 : decode cX5_count 153 = .ok (.getfield 16, 3) := by decide +kernel
theorem dX5_count_156 : decode cX5_count 156 = .ok (.getfield 163, 3) := by decide +kernel
theorem dX5_count_159 : decode cX5_count 159 = .ok (.invokevirtual 169, 3) := by decide +kernel
theorem dX5_count_162 : decode cX5_count 162 = .ok (.ireturn, 1) := by decide +kernel
theorem dX5_count_163 : decode cX5_count 163 = .ok (.aload_n 0, 1) := by decide +kernel
theorem dX5_count_164 : decode cX5_count 164 = .ok (.getfield 16, 3) := by decide +kernel
theorem dX5_count_167 : decode cX5_count 167 = .ok (.invokevirtual 172, 3) := by decide +kernel
theorem dX5_count_170 : decode cX5_count 170 = .ok (.ifCond .eq 7, 3) := by decide +kernel
theorem dX5_count_173 : decode cX5_count 173 = .ok (.iconst 1, 1) := by decide +kernel
theorem dX5_count_174 : decode cX5_count 174 = .ok (.goto 4, 3) := by decide +kernel
theorem dX5_count_177 : decode cX5_count 177 = .ok (.iconst 0, 1) := by decide +kernel
theorem dX5_count_178 : decode cX5_count 178 = .ok (.ireturn, 1) := by decide +kernel
theorem dX5_count_179 : decode cX5_count 179 = .ok (.aload_n 0, 1) := by decide +kernel
theorem dX5_count_180 : decode cX5_count 180 = .ok (.getfield 16, 3) := by decide +kernel
theorem dX5_count_183 : decode cX5_count 183 = .ok (.getfield 175, 3) := by decide +kernel
theorem dX5_count_186 : decode cX5_count 186 = .ok (.ireturn, 1) := by decide +kernel
theorem dX5_count_187 : decode cX5_count 187 = .ok (.aload_n 0, 1) := by decide +kernel
theorem dX5_count_188 : decode cX5_count 188 = .ok (.getfield 16, 3) := by decide +kernel
theorem dX5_count_191 : decode cX5_count 191 = .ok (.getfield 178, 3) := by decide +kernel
theorem dX5_count_194 : decode cX5_count 194 = .ok (.ireturn, 1) := by decide +kernel
theorem dX5_count_195 : decode cX5_count 195 = .ok (.aload_n 0, 1) := by decide +kernel
theorem dX5_count_196 : decode cX5_count 196 = .ok (.getfield 181, 3) := by decide +kernel
theorem dX5_count_199 : decode cX5_count 199 = .ok (.ireturn, 1) := by decide +kernel
theorem dX5_count_200 : decode cX5_count 200 = .ok (.aload_n 0, 1) := by decide +kernel
theorem dX5_count_201 : decode cX5_count 201 = .ok (.getfield 26, 3) := by decide +kernel
theorem dX5_count_204 : decode cX5_count 204 = .ok (.getfield 184, 3) := by decide +kernel
theorem dX5_count_207 : decode cX5_count 207 = .ok (.ireturn, 1) := by decide +kernel
theorem dX5_count_208 : decode cX5_count 208 = .ok (.ldc 78, 2) := by decide +kernel
theorem dX5_count_210 : decode cX5_count 210 = .ok (.ireturn, 1) := by decide +kernel
theorem dX5_undo_0 : decode cX5_undo 0 = .ok (.aload_n 0, 1) := by decide +kernel
theorem dX5_undo_1 : decode cX5_undo 1 = .ok (.getfield 181, 3) := by decide +kernel
theorem dX5_undo_4 : decode cX5_undo 4 = .ok (.ifCond .ne 6, 3) := by decide +kernel
theorem dX5_undo_7 : decode cX5_undo 7 = .ok (.ldc 93, 2) := by decide +kernel
theorem dX5_undo_9 : decode cX5_undo 9 = .ok (.ireturn, 1) := by decide +kernel
theorem dX5_undo_10 : decode cX5_undo 10 = .ok (.aload_n 0, 1) := by decide +kernel
theorem dX5_undo_11 : decode cX5_undo 11 = .ok (.dup, 1) := by decide +kernel
theorem dX5_undo_12 : decode cX5_undo 12 = .ok (.getfield 181, 3) := by decide +kernel
theorem dX5_undo_15 : decode cX5_undo 15 = .ok (.iconst 1, 1) := by decide +kernel
theorem dX5_undo_16 : decode cX5_undo 16 = .ok (.isub, 1) := by decide +kernel
theorem dX5_undo_17 : decode cX5_undo 17 = .ok (.putfield 181, 3) := by decide +kernel
theorem dX5_undo_20 : decode cX5_undo 20 = .ok (.aload_n 0, 1) := by decide +kernel
theorem dX5_undo_21 : decode cX5_undo 21 = .ok (.getfield 16, 3) := by decide +kernel
theorem dX5_undo_24 : decode cX5_undo 24 = .ok (.astore_n 1, 1) := by decide +kernel
theorem dX5_undo_25 : decode cX5_undo 25 = .ok (.aload_n 0, 1) := by decide +kernel
theorem dX5_undo_26 : decode cX5_undo 26 = .ok (.aload_n 0, 1) := by decide +kernel
theorem dX5_undo_27 : decode cX5_undo 27 = .ok (.getfield 11, 3) := by decide +kernel
theorem dX5_undo_30 : decode cX5_undo 30 = .ok (.aload_n 0, 1) := by decide +kernel
theorem dX5_undo_31 : decode cX5_undo 31 = .ok (.getfield 181, 3) := by decide +kernel
theorem dX5_undo_34 : decode cX5_undo 34 = .ok (.aaload, 1) := by decide +kernel
theorem dX5_undo_35 : decode cX5_undo 35 = .ok (.putfield 16, 3) := by decide +kernel
theorem dX5_undo_38 : decode cX5_undo 38 = .ok (.aload_n 0, 1) := by decide +kernel
theorem dX5_undo_39 : decode cX5_undo 39 = .ok (.getfield 11, 3) := by decide +kernel
theorem dX5_undo_42 : decode cX5_undo 42 = .ok (.aload_n 0, 1) := by decide +kernel
theorem dX5_undo_43 : decode cX5_undo 43 = .ok (.getfield 181, 3) := by decide +kernel
theorem dX5_undo_46 : decode cX5_undo 46 = .ok (.aload_n 1, 1) := by decide +kernel
theorem dX5_undo_47 : decode cX5_undo 47 = .ok (.aastore, 1) := by decide +kernel
theorem dX5_undo_48 : decode cX5_undo 48 = .ok (.aload_n 0, 1) := by decide +kernel
theorem dX5_undo_49 : decode cX5_undo 49 = .ok (.getfield 181, 3) := by decide +kernel
theorem dX5_undo_52 : decode cX5_undo 52 = .ok (.ireturn, 1) := by decide +kernel
theorem dX5_newTrial_0 : decode cX5_newTrial 0 = .ok (.aload_n 0, 1) := by decide +kernel
theorem dX5_newTrial_1 : decode cX5_newTrial 1 = .ok (.getfield 20, 3) := by decide +kernel
theorem dX5_newTrial_4 : decode cX5_newTrial 4 = .ok (.aload_n 0, 1) := by decide +kernel
theorem dX5_newTrial_5 : decode cX5_newTrial 5 = .ok (.getfield 16, 3) := by decide +kernel
theorem dX5_newTrial_8 : decode cX5_newTrial 8 = .ok (.invokevirtual 203, 3) := by decide +kernel
theorem dX5_newTrial_11 : decode cX5_newTrial 11 = .ok (.aload_n 0, 1) := by decide +kernel
theorem dX5_newTrial_12 : decode cX5_newTrial 12 = .ok (.getfield 20, 3) := by decide +kernel
theorem dX5_newTrial_15 : decode cX5_newTrial 15 = .ok (.areturn, 1) := by decide +kernel
theorem dX5_settle_0 : decode cX5_settle 0 = .ok (.iload_n 1, 1) := by decide +kernel
theorem dX5_settle_1 : decode cX5_settle 1 = .ok (.ifCond .ge 5, 3) := by decide +kernel
theorem dX5_settle_4 : decode cX5_settle 4 = .ok (.iload_n 1, 1) := by decide +kernel
theorem dX5_settle_5 : decode cX5_settle 5 = .ok (.ireturn, 1) := by decide +kernel
theorem dX5_settle_6 : decode cX5_settle 6 = .ok (.aload_n 0, 1) := by decide +kernel
theorem dX5_settle_7 : decode cX5_settle 7 = .ok (.getfield 181, 3) := by decide +kernel
theorem dX5_settle_10 : decode cX5_settle 10 = .ok (.iconst 4, 1) := by decide +kernel
theorem dX5_settle_11 : decode cX5_settle 11 = .ok (.if_icmp .ge 39, 3) := by decide +kernel
theorem dX5_settle_14 : decode cX5_settle 14 = .ok (.aload_n 0, 1) := by decide +kernel
theorem dX5_settle_15 : decode cX5_settle 15 = .ok (.getfield 11, 3) := by decide +kernel
theorem dX5_settle_18 : decode cX5_settle 18 = .ok (.aload_n 0, 1) := by decide +kernel
theorem dX5_settle_19 : decode cX5_settle 19 = .ok (.getfield 181, 3) := by decide +kernel
theorem dX5_settle_22 : decode cX5_settle 22 = .ok (.aaload, 1) := by decide +kernel
theorem dX5_settle_23 : decode cX5_settle 23 = .ok (.astore_n 2, 1) := by decide +kernel
theorem dX5_settle_24 : decode cX5_settle 24 = .ok (.aload_n 0, 1) := by decide +kernel
theorem dX5_settle_25 : decode cX5_settle 25 = .ok (.getfield 11, 3) := by decide +kernel
theorem dX5_settle_28 : decode cX5_settle 28 = .ok (.aload_n 0, 1) := by decide +kernel
theorem dX5_settle_29 : decode cX5_settle 29 = .ok (.getfield 181, 3) := by decide +kernel
theorem dX5_settle_32 : decode cX5_settle 32 = .ok (.aload_n 0, 1) := by decide +kernel
theorem dX5_settle_33 : decode cX5_settle 33 = .ok (.getfield 16, 3) := by decide +kernel
theorem dX5_settle_36 : decode cX5_settle 36 = .ok (.aastore, 1) := by decide +kernel
theorem dX5_settle_37 : decode cX5_settle 37 = .ok (.aload_n 0, 1) := by decide +kernel
theorem dX5_settle_38 : decode cX5_settle 38 = .ok (.dup, 1) := by decide +kernel
theorem dX5_settle_39 : decode cX5_settle 39 = .ok (.getfield 181, 3) := by decide +kernel
theorem dX5_settle_42 : decode cX5_settle 42 = .ok (.iconst 1, 1) := by decide +kernel
theorem dX5_settle_43 : decode cX5_settle 43 = .ok (.iadd, 1) := by decide +kernel
theorem dX5_settle_44 : decode cX5_settle 44 = .ok (.putfield 181, 3) := by decide +kernel
theorem dX5_settle_47 : decode cX5_settle 47 = .ok (.goto 47, 3) := by decide +kernel
theorem dX5_settle_50 : decode cX5_settle 50 = .ok (.aload_n 0, 1) := by decide +kernel
theorem dX5_settle_51 : decode cX5_settle 51 = .ok (.getfield 11, 3) := by decide +kernel
theorem dX5_settle_54 : decode cX5_settle 54 = .ok (.iconst 0, 1) := by decide +kernel
theorem dX5_settle_55 : decode cX5_settle 55 = .ok (.aaload, 1) := by decide +kernel
theorem dX5_settle_56 : decode cX5_settle 56 = .ok (.astore_n 2, 1) := by decide +kernel
theorem dX5_settle_57 : decode cX5_settle 57 = .ok (.iconst 1, 1) := by decide +kernel
theorem dX5_settle_58 : decode cX5_settle 58 = .ok (.istore_n 3, 1) := by decide +kernel
theorem dX5_settle_59 : decode cX5_settle 59 = .ok (.iload_n 3, 1) := by decide +kernel
theorem dX5_settle_60 : decode cX5_settle 60 = .ok (.iconst 4, 1) := by decide +kernel
theorem dX5_settle_61 : decode cX5_settle 61 = .ok (.if_icmp .ge 23, 3) := by decide +kernel
theorem dX5_settle_64 : decode cX5_settle 64 = .ok (.aload_n 0, 1) := by decide +kernel
theorem dX5_settle_65 : decode cX5_settle 65 = .ok (.getfield 11, 3) := by decide +kernel
theorem dX5_settle_68 : decode cX5_settle 68 = .ok (.iload_n 3, 1) := by decide +kernel
theorem dX5_settle_69 : decode cX5_settle 69 = .ok (.iconst 1, 1) := by decide +kernel
theorem dX5_settle_70 : decode cX5_settle 70 = .ok (.isub, 1) := by decide +kernel
theorem dX5_settle_71 : decode cX5_settle 71 = .ok (.aload_n 0, 1) := by decide +kernel
theorem dX5_settle_72 : decode cX5_settle 72 = .ok (.getfield 11, 3) := by decide +kernel
theorem dX5_settle_75 : decode cX5_settle 75 = .ok (.iload_n 3, 1) := by decide +kernel
theorem dX5_settle_76 : decode cX5_settle 76 = .ok (.aaload, 1) := by decide +kernel
theorem dX5_settle_77 : decode cX5_settle 77 = .ok (.aastore, 1) := by decide +kernel
theorem dX5_settle_78 : decode cX5_settle 78 = .ok (.iinc 3 1, 3) := by decide +kernel
theorem dX5_settle_81 : decode cX5_settle 81 = .ok (.goto (-22), 3) := by decide +kernel
theorem dX5_settle_84 : decode cX5_settle 84 = .ok (.aload_n 0, 1) := by decide +kernel
theorem dX5_settle_85 : decode cX5_settle 85 = .ok (.getfield 11, 3) := by decide +kernel
theorem dX5_settle_88 : decode cX5_settle 88 = .ok (.iconst 3, 1) := by decide +kernel
theorem dX5_settle_89 : decode cX5_settle 89 = .ok (.aload_n 0, 1) := by decide +kernel
theorem dX5_settle_90 : decode cX5_settle 90 = .ok (.getfield 16, 3) := by decide +kernel
theorem dX5_settle_93 : decode cX5_settle 93 = .ok (.aastore, 1) := by decide +kernel
theorem dX5_settle_94 : decode cX5_settle 94 = .ok (.aload_n 0, 1) := by decide +kernel
theorem dX5_settle_95 : decode cX5_settle 95 = .ok (.aload_n 0, 1) := by decide +kernel
theorem dX5_settle_96 : decode cX5_settle 96 = .ok (.getfield 20, 3) := by decide +kernel
theorem dX5_settle_99 : decode cX5_settle 99 = .ok (.putfield 16, 3) := by decide +kernel
theorem dX5_settle_102 : decode cX5_settle 102 = .ok (.aload_n 0, 1) := by decide +kernel
theorem dX5_settle_103 : decode cX5_settle 103 = .ok (.aload_n 2, 1) := by decide +kernel
theorem dX5_settle_104 : decode cX5_settle 104 = .ok (.putfield 20, 3) := by decide +kernel
theorem dX5_settle_107 : decode cX5_settle 107 = .ok (.iload_n 1, 1) := by decide +kernel
theorem dX5_settle_108 : decode cX5_settle 108 = .ok (.ireturn, 1) := by decide +kernel
theorem dX5_isBelow_0 : decode cX5_isBelow 0 = .ok (.iload_n 0, 1) := by decide +kernel
theorem dX5_isBelow_1 : decode cX5_isBelow 1 = .ok (.ifCond .lt 12, 3) := by decide +kernel
theorem dX5_isBelow_4 : decode cX5_isBelow 4 = .ok (.iload_n 0, 1) := by decide +kernel
theorem dX5_isBelow_5 : decode cX5_isBelow 5 = .ok (.iload_n 1, 1) := by decide +kernel
theorem dX5_isBelow_6 : decode cX5_isBelow 6 = .ok (.if_icmp .ge 7, 3) := by decide +kernel
theorem dX5_isBelow_9 : decode cX5_isBelow 9 = .ok (.iconst 1, 1) := by decide +kernel
theorem dX5_isBelow_10 : decode cX5_isBelow 10 = .ok (.goto 4, 3) := by decide +kernel
theorem dX5_isBelow_13 : decode cX5_isBelow 13 = .ok (.iconst 0, 1) := by decide +kernel
theorem dX5_isBelow_14 : decode cX5_isBelow 14 = .ok (.ireturn, 1) := by decide +kernel
theorem dJ6_bitCount_0f7a4_0 : decode cJ6_bitCount_0f7a4 0 = .ok (.iload_n 0, 1) := by decide +kernel
theorem dJ6_bitCount_0f7a4_1 : decode cJ6_bitCount_0f7a4 1 = .ok (.iload_n 0, 1) := by decide +kernel
theorem dJ6_bitCount_0f7a4_2 : decode cJ6_bitCount_0f7a4 2 = .ok (.iconst 1, 1) := by decide +kernel
theorem dJ6_bitCount_0f7a4_3 : decode cJ6_bitCount_0f7a4 3 = .ok (.iushr, 1) := by decide +kernel
theorem dJ6_bitCount_0f7a4_4 : decode cJ6_bitCount_0f7a4 4 = .ok (.ldc_w 265, 3) := by decide +kernel
theorem dJ6_bitCount_0f7a4_7 : decode cJ6_bitCount_0f7a4 7 = .ok (.iand, 1) := by decide +kernel
theorem dJ6_bitCount_0f7a4_8 : decode cJ6_bitCount_0f7a4 8 = .ok (.isub, 1) := by decide +kernel
theorem dJ6_bitCount_0f7a4_9 : decode cJ6_bitCount_0f7a4 9 = .ok (.istore_n 0, 1) := by decide +kernel
theorem dJ6_bitCount_0f7a4_10 : decode cJ6_bitCount_0f7a4 10 = .ok (.iload_n 0, 1) := by decide +kernel
theorem dJ6_bitCount_0f7a4_11 : decode cJ6_bitCount_0f7a4 11 = .ok (.ldc_w 266, 3) := by decide +kernel
theorem dJ6_bitCount_0f7a4_14 : decode cJ6_bitCount_0f7a4 14 = .ok (.iand, 1) := by decide +kernel
theorem dJ6_bitCount_0f7a4_15 : decode cJ6_bitCount_0f7a4 15 = .ok (.iload_n 0, 1) := by decide +kernel
theorem dJ6_bitCount_0f7a4_16 : decode cJ6_bitCount_0f7a4 16 = .ok (.iconst 2, 1) := by decide +kernel
theorem dJ6_bitCount_0f7a4_17 : decode cJ6_bitCount_0f7a4 17 = .ok (.iushr, 1) := by decide +kernel
theorem dJ6_bitCount_0f7a4_18 : decode cJ6_bitCount_0f7a4 18 = .ok (.ldc_w 266, 3) := by decide +kernel
theorem dJ6_bitCount_0f7a4_21 : decode cJ6_bitCount_0f7a4 21 = .ok (.iand, 1) := by decide +kernel
theorem dJ6_bitCount_0f7a4_22 : decode cJ6_bitCount_0f7a4 22 = .ok (.iadd, 1) := by decide +kernel
theorem dJ6_bitCount_0f7a4_23 : decode cJ6_bitCount_0f7a4 23 = .ok (.istore_n 0, 1) := by decide +kernel
theorem dJ6_bitCount_0f7a4_24 : decode cJ6_bitCount_0f7a4 24 = .ok (.iload_n 0, 1) := by decide +kernel
theorem dJ6_bitCount_0f7a4_25 : decode cJ6_bitCount_0f7a4 25 = .ok (.iload_n 0, 1) := by decide +kernel
theorem dJ6_bitCount_0f7a4_26 : decode cJ6_bitCount_0f7a4 26 = .ok (.iconst 4, 1) := by decide +kernel
theorem dJ6_bitCount_0f7a4_27 : decode cJ6_bitCount_0f7a4 27 = .ok (.iushr, 1) := by decide +kernel
theorem dJ6_bitCount_0f7a4_28 : decode cJ6_bitCount_0f7a4 28 = .ok (.iadd, 1) := by decide +kernel
theorem dJ6_bitCount_0f7a4_29 : decode cJ6_bitCount_0f7a4 29 = .ok (.ldc_w 267, 3) := by decide +kernel
theorem dJ6_bitCount_0f7a4_32 : decode cJ6_bitCount_0f7a4 32 = .ok (.iand, 1) := by decide +kernel
theorem dJ6_bitCount_0f7a4_33 : decode cJ6_bitCount_0f7a4 33 = .ok (.istore_n 0, 1) := by decide +kernel
theorem dJ6_bitCount_0f7a4_34 : decode cJ6_bitCount_0f7a4 34 = .ok (.iload_n 0, 1) := by decide +kernel
theorem dJ6_bitCount_0f7a4_35 : decode cJ6_bitCount_0f7a4 35 = .ok (.iload_n 0, 1) := by decide +kernel
theorem dJ6_bitCount_0f7a4_36 : decode cJ6_bitCount_0f7a4 36 = .ok (.bipush 8, 2) := by decide +kernel
theorem dJ6_bitCount_0f7a4_38 : decode cJ6_bitCount_0f7a4 38 = .ok (.iushr, 1) := by decide +kernel
theorem dJ6_bitCount_0f7a4_39 : decode cJ6_bitCount_0f7a4 39 = .ok (.iadd, 1) := by decide +kernel
theorem dJ6_bitCount_0f7a4_40 : decode cJ6_bitCount_0f7a4 40 = .ok (.istore_n 0, 1) := by decide +kernel
theorem dJ6_bitCount_0f7a4_41 : decode cJ6_bitCount_0f7a4 41 = .ok (.iload_n 0, 1) := by decide +kernel
theorem dJ6_bitCount_0f7a4_42 : decode cJ6_bitCount_0f7a4 42 = .ok (.iload_n 0, 1) := by decide +kernel
theorem dJ6_bitCount_0f7a4_43 : decode cJ6_bitCount_0f7a4 43 = .ok (.bipush 16, 2) := by decide +kernel
theorem dJ6_bitCount_0f7a4_45 : decode cJ6_bitCount_0f7a4 45 = .ok (.iushr, 1) := by decide +kernel
theorem dJ6_bitCount_0f7a4_46 : decode cJ6_bitCount_0f7a4 46 = .ok (.iadd, 1) := by decide +kernel
theorem dJ6_bitCount_0f7a4_47 : decode cJ6_bitCount_0f7a4 47 = .ok (.istore_n 0, 1) := by decide +kernel
theorem dJ6_bitCount_0f7a4_48 : decode cJ6_bitCount_0f7a4 48 = .ok (.iload_n 0, 1) := by decide +kernel
theorem dJ6_bitCount_0f7a4_49 : decode cJ6_bitCount_0f7a4 49 = .ok (.bipush 63, 2) := by decide +kernel
theorem dJ6_bitCount_0f7a4_51 : decode cJ6_bitCount_0f7a4 51 = .ok (.iand, 1) := by decide +kernel
theorem dJ6_bitCount_0f7a4_52 : decode cJ6_bitCount_0f7a4 52 = .ok (.ireturn, 1) := by decide +kernel
theorem dJ9_max_7cf53_0 : decode cJ9_max_7cf53 0 = .ok (.iload_n 0, 1) := by decide +kernel
theorem dJ9_max_7cf53_1 : decode cJ9_max_7cf53 1 = .ok (.iload_n 1, 1) := by decide +kernel
theorem dJ9_max_7cf53_2 : decode cJ9_max_7cf53 2 = .ok (.if_icmp .lt 7, 3) := by decide +kernel
theorem dJ9_max_7cf53_5 : decode cJ9_max_7cf53 5 = .ok (.iload_n 0, 1) := by decide +kernel
theorem dJ9_max_7cf53_6 : decode cJ9_max_7cf53 6 = .ok (.goto 4, 3) := by decide +kernel
theorem dJ9_max_7cf53_9 : decode cJ9_max_7cf53 9 = .ok (.iload_n 1, 1) := by decide +kernel
theorem dJ9_max_7cf53_10 : decode cJ9_max_7cf53 10 = .ok (.ireturn, 1) := by decide +kernel
theorem dJ9_min_7cf53_0 : decode cJ9_min_7cf53 0 = .ok (.iload_n 0, 1) := by decide +kernel
theorem dJ9_min_7cf53_1 : decode cJ9_min_7cf53 1 = .ok (.iload_n 1, 1) := by decide +kernel
theorem dJ9_min_7cf53_2 : decode cJ9_min_7cf53 2 = .ok (.if_icmp .gt 7, 3) := by decide +kernel
theorem dJ9_min_7cf53_5 : decode cJ9_min_7cf53 5 = .ok (.iload_n 0, 1) := by decide +kernel
theorem dJ9_min_7cf53_6 : decode cJ9_min_7cf53 6 = .ok (.goto 4, 3) := by decide +kernel
theorem dJ9_min_7cf53_9 : decode cJ9_min_7cf53 9 = .ok (.iload_n 1, 1) := by decide +kernel
theorem dJ9_min_7cf53_10 : decode cJ9_min_7cf53 10 = .ok (.ireturn, 1) := by decide +kernel
theorem dL_cell_0 : decode cL_cell 0 = .ok (.iload_n 1, 1) := by decide +kernel
theorem dL_cell_1 : decode cL_cell 1 = .ok (.aload_n 0, 1) := by decide +kernel
theorem dL_cell_2 : decode cL_cell 2 = .ok (.arraylength, 1) := by decide +kernel
theorem dL_cell_3 : decode cL_cell 3 = .ok (.if_icmp .ge 9, 3) := by decide +kernel
theorem dL_cell_6 : decode cL_cell 6 = .ok (.aload_n 0, 1) := by decide +kernel

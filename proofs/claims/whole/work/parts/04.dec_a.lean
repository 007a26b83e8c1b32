theorem dX0_init_0 : decode cX0_init 0 = .ok (.aload_n 0, 1) := by decide +kernel
theorem dX0_init_1 : decode cX0_init 1 = .ok (.invokespecial 3, 3) := by decide +kernel
theorem dX0_init_4 : decode cX0_init 4 = .ok (.aload_n 0, 1) := by decide +kernel
theorem dX0_init_5 : decode cX0_init 5 = .ok (.iconst 0, 1) := by decide +kernel
theorem dX0_init_6 : decode cX0_init 6 = .ok (.putfield 9, 3) := by decide +kernel
theorem dX0_init_9 : decode cX0_init 9 = .ok (.aload_n 0, 1) := by decide +kernel
theorem dX0_init_10 : decode cX0_init 10 = .ok (.iconst 0, 1) := by decide +kernel
theorem dX0_init_11 : decode cX0_init 11 = .ok (.putfield 15, 3) := by decide +kernel
theorem dX0_init_14 : decode cX0_init 14 = .ok (.aload_n 0, 1) := by decide +kernel
theorem dX0_init_15 : decode cX0_init 15 = .ok (.iconst (-1), 1) := by decide +kernel
theorem dX0_init_16 : decode cX0_init 16 = .ok (.putfield 18, 3) := by decide +kernel
theorem dX0_init_19 : decode cX0_init 19 = .ok (.aload_n 0, 1) := by decide +kernel
theorem dX0_init_20 : decode cX0_init 20 = .ok (.iconst (-1), 1) := by decide +kernel
theorem dX0_init_21 : decode cX0_init 21 = .ok (.putfield 21, 3) := by decide +kernel
theorem dX0_init_24 : decode cX0_init 24 = .ok (.aload_n 0, 1) := by decide +kernel
theorem dX0_init_25 : decode cX0_init 25 = .ok (.iload_n 1, 1) := by decide +kernel
theorem dX0_init_26 : decode cX0_init 26 = .ok (.putfield 24, 3) := by decide +kernel
theorem dX0_init_29 : decode cX0_init 29 = .ok (.aload_n 0, 1) := by decide +kernel
theorem dX0_init_30 : decode cX0_init 30 = .ok (.iload_n 2, 1) := by decide +kernel
theorem dX0_init_31 : decode cX0_init 31 = .ok (.putfield 27, 3) := by decide +kernel
theorem dX0_init_34 : decode cX0_init 34 = .ok (.aload_n 0, 1) := by decide +kernel
theorem dX0_init_35 : decode cX0_init 35 = .ok (.iload_n 3, 1) := by decide +kernel
theorem dX0_init_36 : decode cX0_init 36 = .ok (.putfield 30, 3) := by decide +kernel
theorem dX0_init_39 : decode cX0_init 39 = .ok (.aload_n 0, 1) := by decide +kernel
theorem dX0_init_40 : decode cX0_init 40 = .ok (.iload 4, 2) := by decide +kernel
theorem dX0_init_42 : decode cX0_init 42 = .ok (.putfield 33, 3) := by decide +kernel
theorem dX0_init_45 : decode cX0_init 45 = .ok (.aload_n 0, 1) := by decide +kernel
theorem dX0_init_46 : decode cX0_init 46 = .ok (.iload 5, 2) := by decide +kernel
theorem dX0_init_48 : decode cX0_init 48 = .ok (.putfield 36, 3) := by decide +kernel
theorem dX0_init_51 : decode cX0_init 51 = .ok (.return_, 1) := by decide +kernel
theorem dX0_canBeDrilled_0 : decode cX0_canBeDrilled 0 = .ok (.aload_n 0, 1) := by decide +kernel
theorem dX0_canBeDrilled_1 : decode cX0_canBeDrilled 1 = .ok (.getfield 9, 3) := by decide +kernel
theorem dX0_canBeDrilled_4 : decode cX0_canBeDrilled 4 = .ok (.iconst 1, 1) := by decide +kernel
theorem dX0_canBeDrilled_5 : decode cX0_canBeDrilled 5 = .ok (.if_icmp .ne 27, 3) := by decide +kernel
theorem dX0_canBeDrilled_8 : decode cX0_canBeDrilled 8 = .ok (.iload_n 1, 1) := by decide +kernel
theorem dX0_canBeDrilled_9 : decode cX0_canBeDrilled 9 = .ok (.invokestatic 39, 3) := by decide +kernel
theorem dX0_canBeDrilled_12 : decode cX0_canBeDrilled 12 = .ok (.ifCond .eq 20, 3) := by decide +kernel
theorem dX0_canBeDrilled_15 : decode cX0_canBeDrilled 15 = .ok (.iload_n 1, 1) := by decide +kernel
theorem dX0_canBeDrilled_16 : decode cX0_canBeDrilled 16 = .ok (.iconst 2, 1) := by decide +kernel
theorem dX0_canBeDrilled_17 : decode cX0_canBeDrilled 17 = .ok (.if_icmp .eq 11, 3) := by decide +kernel
theorem dX0_canBeDrilled_20 : decode cX0_canBeDrilled 20 = .ok (.aload_n 0, 1) := by decide +kernel
theorem dX0_canBeDrilled_21 : decode cX0_canBeDrilled 21 = .ok (.getfield 24, 3) := by decide +kernel
theorem dX0_canBeDrilled_24 : decode cX0_canBeDrilled 24 = .ok (.iconst 1, 1) := by decide +kernel
theorem dX0_canBeDrilled_25 : decode cX0_canBeDrilled 25 = .ok (.if_icmp .le 7, 3) := by decide +kernel
theorem dX0_canBeDrilled_28 : decode cX0_canBeDrilled 28 = .ok (.iconst 1, 1) := by decide +kernel
theorem dX0_canBeDrilled_29 : decode cX0_canBeDrilled 29 = .ok (.goto 4, 3) := by decide +kernel
theorem dX0_canBeDrilled_32 : decode cX0_canBeDrilled 32 = .ok (.iconst 0, 1) := by decide +kernel
theorem dX0_canBeDrilled_33 : decode cX0_canBeDrilled 33 = .ok (.ireturn, 1) := by decide +kernel
theorem dX0_pales_0 : decode cX0_pales 0 = .ok (.aload_n 0, 1) := by decide +kernel
theorem dX0_pales_1 : decode cX0_pales 1 = .ok (.getfield 9, 3) := by decide +kernel
theorem dX0_pales_4 : decode cX0_pales 4 = .ok (.iconst 3, 1) := by decide +kernel
theorem dX0_pales_5 : decode cX0_pales 5 = .ok (.if_icmp .eq 11, 3) := by decide +kernel
theorem dX0_pales_8 : decode cX0_pales 8 = .ok (.aload_n 0, 1) := by decide +kernel
theorem dX0_pales_9 : decode cX0_pales 9 = .ok (.getfield 9, 3) := by decide +kernel
theorem dX0_pales_12 : decode cX0_pales 12 = .ok (.iconst 4, 1) := by decide +kernel
theorem dX0_pales_13 : decode cX0_pales 13 = .ok (.if_icmp .ne 5, 3) := by decide +kernel
theorem dX0_pales_16 : decode cX0_pales 16 = .ok (.iconst 0, 1) := by decide +kernel
theorem dX0_pales_17 : decode cX0_pales 17 = .ok (.ireturn, 1) := by decide +kernel
theorem dX0_pales_18 : decode cX0_pales 18 = .ok (.aload_n 0, 1) := by decide +kernel
theorem dX0_pales_19 : decode cX0_pales 19 = .ok (.getfield 30, 3) := by decide +kernel
theorem dX0_pales_22 : decode cX0_pales 22 = .ok (.istore_n 2, 1) := by decide +kernel
theorem dX0_pales_23 : decode cX0_pales 23 = .ok (.aload_n 0, 1) := by decide +kernel
theorem dX0_pales_24 : decode cX0_pales 24 = .ok (.iconst 0, 1) := by decide +kernel
theorem dX0_pales_25 : decode cX0_pales 25 = .ok (.aload_n 0, 1) := by decide +kernel
theorem dX0_pales_26 : decode cX0_pales 26 = .ok (.getfield 30, 3) := by decide +kernel
theorem dX0_pales_29 : decode cX0_pales 29 = .ok (.iload_n 1, 1) := by decide +kernel
theorem dX0_pales_30 : decode cX0_pales 30 = .ok (.isub, 1) := by decide +kernel
theorem dX0_pales_31 : decode cX0_pales 31 = .ok (.invokestatic 43, 3) := by decide +kernel
theorem dX0_pales_34 : decode cX0_pales 34 = .ok (.putfield 30, 3) := by decide +kernel
theorem dX0_pales_37 : decode cX0_pales 37 = .ok (.aload_n 0, 1) := by decide +kernel
theorem dX0_pales_38 : decode cX0_pales 38 = .ok (.getfield 30, 3) := by decide +kernel
theorem dX0_pales_41 : decode cX0_pales 41 = .ok (.iload_n 2, 1) := by decide +kernel
theorem dX0_pales_42 : decode cX0_pales 42 = .ok (.if_icmp .eq 7, 3) := by decide +kernel
theorem dX0_pales_45 : decode cX0_pales 45 = .ok (.iconst 1, 1) := by decide +kernel
theorem dX0_pales_46 : decode cX0_pales 46 = .ok (.goto 4, 3) := by decide +kernel
theorem dX0_pales_49 : decode cX0_pales 49 = .ok (.iconst 0, 1) := by decide +kernel
theorem dX0_pales_50 : decode cX0_pales 50 = .ok (.ireturn, 1) := by decide +kernel
theorem dX0_fits_0 : decode cX0_fits 0 = .ok (.aload_n 0, 1) := by decide +kernel
theorem dX0_fits_1 : decode cX0_fits 1 = .ok (.getfield 9, 3) := by decide +kernel
theorem dX0_fits_4 : decode cX0_fits 4 = .ok (.iconst 2, 1) := by decide +kernel
theorem dX0_fits_5 : decode cX0_fits 5 = .ok (.if_icmp .ne 52, 3) := by decide +kernel
theorem dX0_fits_8 : decode cX0_fits 8 = .ok (.aload_n 0, 1) := by decide +kernel
theorem dX0_fits_9 : decode cX0_fits 9 = .ok (.getfield 24, 3) := by decide +kernel
theorem dX0_fits_12 : decode cX0_fits 12 = .ok (.aload_n 1, 1) := by decide +kernel
theorem dX0_fits_13 : decode cX0_fits 13 = .ok (.getfield 49, 3) := by decide +kernel
theorem dX0_fits_16 : decode cX0_fits 16 = .ok (.if_icmp .ne 41, 3) := by decide +kernel
theorem dX0_fits_19 : decode cX0_fits 19 = .ok (.aload_n 0, 1) := by decide +kernel
theorem dX0_fits_20 : decode cX0_fits 20 = .ok (.getfield 15, 3) := by decide +kernel
theorem dX0_fits_23 : decode cX0_fits 23 = .ok (.aload_n 1, 1) := by decide +kernel
theorem dX0_fits_24 : decode cX0_fits 24 = .ok (.getfield 52, 3) := by decide +kernel
theorem dX0_fits_27 : decode cX0_fits 27 = .ok (.if_icmp .ne 30, 3) := by decide +kernel
theorem dX0_fits_30 : decode cX0_fits 30 = .ok (.aload_n 0, 1) := by decide +kernel
theorem dX0_fits_31 : decode cX0_fits 31 = .ok (.getfield 30, 3) := by decide +kernel
theorem dX0_fits_34 : decode cX0_fits 34 = .ok (.aload_n 1, 1) := by decide +kernel
theorem dX0_fits_35 : decode cX0_fits 35 = .ok (.getfield 53, 3) := by decide +kernel
theorem dX0_fits_38 : decode cX0_fits 38 = .ok (.if_icmp .ne 19, 3) := by decide +kernel
theorem dX0_fits_41 : decode cX0_fits 41 = .ok (.aload_n 0, 1) := by decide +kernel
theorem dX0_fits_42 : decode cX0_fits 42 = .ok (.getfield 27, 3) := by decide +kernel
theorem dX0_fits_45 : decode cX0_fits 45 = .ok (.iload_n 2, 1) := by decide +kernel
theorem dX0_fits_46 : decode cX0_fits 46 = .ok (.iload_n 3, 1) := by decide +kernel
theorem dX0_fits_47 : decode cX0_fits 47 = .ok (.invokestatic 54, 3) := by decide +kernel
theorem dX0_fits_50 : decode cX0_fits 50 = .ok (.ifCond .eq 7, 3) := by decide +kernel
theorem dX0_fits_53 : decode cX0_fits 53 = .ok (.iconst 1, 1) := by decide +kernel
theorem dX0_fits_54 : decode cX0_fits 54 = .ok (.goto 4, 3) := by decide +kernel
theorem dX0_fits_57 : decode cX0_fits 57 = .ok (.iconst 0, 1) := by decide +kernel
theorem dX0_fits_58 : decode cX0_fits 58 = .ok (.ireturn, 1) := by decide +kernel
theorem dX1_init_0 : decode cX1_init 0 = .ok (.aload_n 0, 1) := by decide +kernel
theorem dX1_init_1 : decode cX1_init 1 = .ok (.invokespecial 3, 3) := by decide +kernel
theorem dX1_init_4 : decode cX1_init 4 = .ok (.aload_n 0, 1) := by decide +kernel
theorem dX1_init_5 : decode cX1_init 5 = .ok (.bipush 12, 2) := by decide +kernel
theorem dX1_init_7 : decode cX1_init 7 = .ok (.newarray .int, 2) := by decide +kernel
theorem dX1_init_9 : decode cX1_init 9 = .ok (.putfield 9, 3) := by decide +kernel
theorem dX1_init_12 : decode cX1_init 12 = .ok (.aload_n 0, 1) := by decide +kernel
theorem dX1_init_13 : decode cX1_init 13 = .ok (.bipush 9, 2) := by decide +kernel
theorem dX1_init_15 : decode cX1_init 15 = .ok (.putfield 15, 3) := by decide +kernel
theorem dX1_init_18 : decode cX1_init 18 = .ok (.aload_n 0, 1) := by decide +kernel
theorem dX1_init_19 : decode cX1_init 19 = .ok (.iconst 0, 1) := by decide +kernel
theorem dX1_init_20 : decode cX1_init 20 = .ok (.putfield 19, 3) := by decide +kernel
theorem dX1_init_23 : decode cX1_init 23 = .ok (.aload_n 0, 1) := by decide +kernel
theorem dX1_init_24 : decode cX1_init 24 = .ok (.iconst (-1), 1) := by decide +kernel
theorem dX1_init_25 : decode cX1_init 25 = .ok (.putfield 22, 3) := by decide +kernel
theorem dX1_init_28 : decode cX1_init 28 = .ok (.aload_n 0, 1) := by decide +kernel
theorem dX1_init_29 : decode cX1_init 29 = .ok (.iload_n 1, 1) := by decide +kernel
theorem dX1_init_30 : decode cX1_init 30 = .ok (.putfield 25, 3) := by decide +kernel
theorem dX1_init_33 : decode cX1_init 33 = .ok (.aload_n 0, 1) := by decide +kernel
theorem dX1_init_34 : decode cX1_init 34 = .ok (.iload_n 2, 1) := by decide +kernel
theorem dX1_init_35 : decode cX1_init 35 = .ok (.putfield 28, 3) := by decide +kernel
theorem dX1_init_38 : decode cX1_init 38 = .ok (.aload_n 0, 1) := by decide +kernel
theorem dX1_init_39 : decode cX1_init 39 = .ok (.iload_n 3, 1) := by decide +kernel
theorem dX1_init_40 : decode cX1_init 40 = .ok (.putfield 31, 3) := by decide +kernel
theorem dX1_init_43 : decode cX1_init 43 = .ok (.return_, 1) := by decide +kernel
theorem dX1_sew_0 : decode cX1_sew 0 = .ok (.aload_n 0, 1) := by decide +kernel
theorem dX1_sew_1 : decode cX1_sew 1 = .ok (.getfield 9, 3) := by decide +kernel
theorem dX1_sew_4 : decode cX1_sew 4 = .ok (.iload_n 1, 1) := by decide +kernel
theorem dX1_sew_5 : decode cX1_sew 5 = .ok (.iload_n 2, 1) := by decide +kernel
theorem dX1_sew_6 : decode cX1_sew 6 = .ok (.iastore, 1) := by decide +kernel
theorem dX1_sew_7 : decode cX1_sew 7 = .ok (.aload_n 0, 1) := by decide +kernel
theorem dX1_sew_8 : decode cX1_sew 8 = .ok (.aload_n 0, 1) := by decide +kernel
theorem dX1_sew_9 : decode cX1_sew 9 = .ok (.getfield 15, 3) := by decide +kernel
theorem dX1_sew_12 : decode cX1_sew 12 = .ok (.iload_n 3, 1) := by decide +kernel
theorem dX1_sew_13 : decode cX1_sew 13 = .ok (.invokestatic 34, 3) := by decide +kernel
theorem dX1_sew_16 : decode cX1_sew 16 = .ok (.putfield 15, 3) := by decide +kernel
theorem dX1_sew_19 : decode cX1_sew 19 = .ok (.aload_n 0, 1) := by decide +kernel
theorem dX1_sew_20 : decode cX1_sew 20 = .ok (.aload_n 0, 1) := by decide +kernel
theorem dX1_sew_21 : decode cX1_sew 21 = .ok (.getfield 19, 3) := by decide +kernel
theorem dX1_sew_24 : decode cX1_sew 24 = .ok (.iload_n 3, 1) := by decide +kernel
theorem dX1_sew_25 : decode cX1_sew 25 = .ok (.invokestatic 40, 3) := by decide +kernel
theorem dX1_sew_28 : decode cX1_sew 28 = .ok (.putfield 19, 3) := by decide +kernel
theorem dX1_sew_31 : decode cX1_sew 31 = .ok (.return_, 1) := by decide +kernel
theorem dX2_init_0 : decode cX2_init 0 = .ok (.aload_n 0, 1) := by decide +kernel
theorem dX2_init_1 : decode cX2_init 1 = .ok (.invokespecial 3, 3) := by decide +kernel
theorem dX2_init_4 : decode cX2_init 4 = .ok (.aload_n 0, 1) := by decide +kernel
theorem dX2_init_5 : decode cX2_init 5 = .ok (.bipush 40, 2) := by decide +kernel
theorem dX2_init_7 : decode cX2_init 7 = .ok (.newarray .int, 2) := by decide +kernel
theorem dX2_init_9 : decode cX2_init 9 = .ok (.putfield 9, 3) := by decide +kernel
theorem dX2_init_12 : decode cX2_init 12 = .ok (.aload_n 0, 1) := by decide +kernel
theorem dX2_init_13 : decode cX2_init 13 = .ok (.iconst 0, 1) := by decide +kernel
theorem dX2_init_14 : decode cX2_init 14 = .ok (.putfield 15, 3) := by decide +kernel
theorem dX2_init_17 : decode cX2_init 17 = .ok (.aload_n 0, 1) := by decide +kernel
theorem dX2_init_18 : decode cX2_init 18 = .ok (.sipush 144, 3) := by decide +kernel
theorem dX2_init_21 : decode cX2_init 21 = .ok (.newarray .int, 2) := by decide +kernel
theorem dX2_init_23 : decode cX2_init 23 = .ok (.putfield 19, 3) := by decide +kernel
theorem dX2_init_26 : decode cX2_init 26 = .ok (.aload_n 0, 1) := by decide +kernel
theorem dX2_init_27 : decode cX2_init 27 = .ok (.sipush 26244, 3) := by decide +kernel
theorem dX2_init_30 : decode cX2_init 30 = .ok (.newarray .int, 2) := by decide +kernel
theorem dX2_init_32 : decode cX2_init 32 = .ok (.putfield 22, 3) := by decide +kernel
theorem dX2_init_35 : decode cX2_init 35 = .ok (.aload_n 0, 1) := by decide +kernel
theorem dX2_init_36 : decode cX2_init 36 = .ok (.bipush 36, 2) := by decide +kernel
theorem dX2_init_38 : decode cX2_init 38 = .ok (.newarray .int, 2) := by decide +kernel
theorem dX2_init_40 : decode cX2_init 40 = .ok (.putfield 25, 3) := by decide +kernel
theorem dX2_init_43 : decode cX2_init 43 = .ok (.return_, 1) := by decide +kernel
theorem dX2_relist_0 : decode cX2_relist 0 = .ok (.iload_n 1, 1) := by decide +kernel
theorem dX2_relist_1 : decode cX2_relist 1 = .ok (.bipush 10, 2) := by decide +kernel
theorem dX2_relist_3 : decode cX2_relist 3 = .ok (.imul, 1) := by decide +kernel
theorem dX2_relist_4 : decode cX2_relist 4 = .ok (.iload_n 2, 1) := by decide +kernel
theorem dX2_relist_5 : decode cX2_relist 5 = .ok (.iadd, 1) := by decide +kernel
theorem dX2_relist_6 : decode cX2_relist 6 = .ok (.istore 4, 2) := by decide +kernel
theorem dX2_relist_8 : decode cX2_relist 8 = .ok (.aload_n 0, 1) := by decide +kernel
theorem dX2_relist_9 : decode cX2_relist 9 = .ok (.getfield 9, 3) := by decide +kernel
theorem dX2_relist_12 : decode cX2_relist 12 = .ok (.iload 4, 2) := by decide +kernel
theorem dX2_relist_14 : decode cX2_relist 14 = .ok (.iaload, 1) := by decide +kernel
theorem dX2_relist_15 : decode cX2_relist 15 = .ok (.istore 5, 2) := by decide +kernel
theorem dX2_relist_17 : decode cX2_relist 17 = .ok (.iload 5, 2) := by decide +kernel
theorem dX2_relist_19 : decode cX2_relist 19 = .ok (.iload_n 3, 1) := by decide +kernel
theorem dX2_relist_20 : decode cX2_relist 20 = .ok (.if_icmp .eq 21, 3) := by decide +kernel
theorem dX2_relist_23 : decode cX2_relist 23 = .ok (.aload_n 0, 1) := by decide +kernel
theorem dX2_relist_24 : decode cX2_relist 24 = .ok (.getfield 9, 3) := by decide +kernel
theorem dX2_relist_27 : decode cX2_relist 27 = .ok (.iload 4, 2) := by decide +kernel
theorem dX2_relist_29 : decode cX2_relist 29 = .ok (.iload_n 3, 1) := by decide +kernel
theorem dX2_relist_30 : decode cX2_relist 30 = .ok (.iastore, 1) := by decide +kernel
theorem dX2_relist_31 : decode cX2_relist 31 = .ok (.aload_n 0, 1) := by decide +kernel
theorem dX2_relist_32 : decode cX2_relist 32 = .ok (.dup, 1) := by decide +kernel
theorem dX2_relist_33 : decode cX2_relist 33 = .ok (.getfield 15, 3) := by decide +kernel
theorem dX2_relist_36 : decode cX2_relist 36 = .ok (.iconst 1, 1) := by decide +kernel
theorem dX2_relist_37 : decode cX2_relist 37 = .ok (.iadd, 1) := by decide +kernel
theorem dX2_relist_38 : decode cX2_relist 38 = .ok (.putfield 15, 3) := by decide +kernel
theorem dX2_relist_41 : decode cX2_relist 41 = .ok (.iload 5, 2) := by decide +kernel
theorem dX2_relist_43 : decode cX2_relist 43 = .ok (.ireturn, 1) := by decide +kernel
theorem dX2_plan_0 : decode cX2_plan 0 = .ok (.aload_n 1, 1) := by decide +kernel
theorem dX2_plan_1 : decode cX2_plan 1 = .ok (.getfield 28, 3) := by decide +kernel
theorem dX2_plan_4 : decode cX2_plan 4 = .ok (.aload_n 0, 1) := by decide +kernel
theorem dX2_plan_5 : decode cX2_plan 5 = .ok (.getfield 15, 3) := by decide +kernel
theorem dX2_plan_8 : decode cX2_plan 8 = .ok (.if_icmp .ne 4, 3) := by decide +kernel
theorem dX2_plan_11 : decode cX2_plan 11 = .ok (.return_, 1) := by decide +kernel
theorem dX2_plan_12 : decode cX2_plan 12 = .ok (.aload_n 0, 1) := by decide +kernel
theorem dX2_plan_13 : decode cX2_plan 13 = .ok (.aload_n 1, 1) := by decide +kernel
theorem dX2_plan_14 : decode cX2_plan 14 = .ok (.invokevirtual 33, 3) := by decide +kernel
theorem dX2_plan_17 : decode cX2_plan 17 = .ok (.aload_n 0, 1) := by decide +kernel
theorem dX2_plan_18 : decode cX2_plan 18 = .ok (.getfield 22, 3) := by decide +kernel
theorem dX2_plan_21 : decode cX2_plan 21 = .ok (.iconst (-1), 1) := by decide +kernel
theorem dX2_plan_22 : decode cX2_plan 22 = .ok (.invokestatic 37, 3) := by decide +kernel
theorem dX2_plan_25 : decode cX2_plan 25 = .ok (.aload_n 0, 1) := by decide +kernel
theorem dX2_plan_26 : decode cX2_plan 26 = .ok (.invokevirtual 43, 3) := by decide +kernel
theorem dX2_plan_29 : decode cX2_plan 29 = .ok (.aload_n 0, 1) := by decide +kernel
theorem dX2_plan_30 : decode cX2_plan 30 = .ok (.aload_n 1, 1) := by decide +kernel
theorem dX2_plan_31 : decode cX2_plan 31 = .ok (.invokevirtual 46, 3) := by decide +kernel
theorem dX2_plan_34 : decode cX2_plan 34 = .ok (.aload_n 1, 1) := by decide +kernel
theorem dX2_plan_35 : decode cX2_plan 35 = .ok (.aload_n 0, 1) := by decide +kernel
theorem dX2_plan_36 : decode cX2_plan 36 = .ok (.getfield 15, 3) := by decide +kernel
theorem dX2_plan_39 : decode cX2_plan 39 = .ok (.putfield 28, 3) := by decide +kernel
theorem dX2_plan_42 : decode cX2_plan 42 = .ok (.return_, 1) := by decide +kernel
theorem dX2_reckonGains_0 : decode cX2_reckonGains 0 = .ok (.iconst 1, 1) := by decide +kernel
theorem dX2_reckonGains_1 : decode cX2_reckonGains 1 = .ok (.istore_n 2, 1) := by decide +kernel
theorem dX2_reckonGains_2 : decode cX2_reckonGains 2 = .ok (.iload_n 2, 1) := by decide +kernel
theorem dX2_reckonGains_3 : decode cX2_reckonGains 3 = .ok (.iconst 3, 1) := by decide +kernel
theorem dX2_reckonGains_4 : decode cX2_reckonGains 4 = .ok (.if_icmp .gt 54, 3) := by decide +kernel
theorem dX2_reckonGains_7 : decode cX2_reckonGains 7 = .ok (.iconst 0, 1) := by decide +kernel
theorem dX2_reckonGains_8 : decode cX2_reckonGains 8 = .ok (.istore_n 3, 1) := by decide +kernel
theorem dX2_reckonGains_9 : decode cX2_reckonGains 9 = .ok (.iload_n 3, 1) := by decide +kernel
theorem dX2_reckonGains_10 : decode cX2_reckonGains 10 = .ok (.bipush 36, 2) := by decide +kernel
theorem dX2_reckonGains_12 : decode cX2_reckonGains 12 = .ok (.if_icmp .ge 40, 3) := by decide +kernel
theorem dX2_reckonGains_15 : decode cX2_reckonGains 15 = .ok (.aload_n 1, 1) := by decide +kernel
theorem dX2_reckonGains_16 : decode cX2_reckonGains 16 = .ok (.iload_n 3, 1) := by decide +kernel
theorem dX2_reckonGains_17 : decode cX2_reckonGains 17 = .ok (.iload_n 2, 1) := by decide +kernel
theorem dX2_reckonGains_18 : decode cX2_reckonGains 18 = .ok (.invokevirtual 49, 3) := by decide +kernel
theorem dX2_reckonGains_21 : decode cX2_reckonGains 21 = .ok (.istore 4, 2) := by decide +kernel
theorem dX2_reckonGains_23 : decode cX2_reckonGains 23 = .ok (.aload_n 0, 1) := by decide +kernel
theorem dX2_reckonGains_24 : decode cX2_reckonGains 24 = .ok (.getfield 19, 3) := by decide +kernel
theorem dX2_reckonGains_27 : decode cX2_reckonGains 27 = .ok (.iload_n 2, 1) := by decide +kernel
theorem dX2_reckonGains_28 : decode cX2_reckonGains 28 = .ok (.bipush 36, 2) := by decide +kernel
theorem dX2_reckonGains_30 : decode cX2_reckonGains 30 = .ok (.imul, 1) := by decide +kernel
theorem dX2_reckonGains_31 : decode cX2_reckonGains 31 = .ok (.iload_n 3, 1) := by decide +kernel
theorem dX2_reckonGains_32 : decode cX2_reckonGains 32 = .ok (.iadd, 1) := by decide +kernel
theorem dX2_reckonGains_33 : decode cX2_reckonGains 33 = .ok (.aload_n 0, 1) := by decide +kernel
theorem dX2_reckonGains_34 : decode cX2_reckonGains 34 = .ok (.getfield 9, 3) := by decide +kernel
theorem dX2_reckonGains_37 : decode cX2_reckonGains 37 = .ok (.iload_n 2, 1) := by decide +kernel
theorem dX2_reckonGains_38 : decode cX2_reckonGains 38 = .ok (.bipush 10, 2) := by decide +kernel
theorem dX2_reckonGains_40 : decode cX2_reckonGains 40 = .ok (.imul, 1) := by decide +kernel
theorem dX2_reckonGains_41 : decode cX2_reckonGains 41 = .ok (.iload 4, 2) := by decide +kernel
theorem dX2_reckonGains_43 : decode cX2_reckonGains 43 = .ok (.iadd, 1) := by decide +kernel
theorem dX2_reckonGains_44 : decode cX2_reckonGains 44 = .ok (.iaload, 1) := by decide +kernel
theorem dX2_reckonGains_45 : decode cX2_reckonGains 45 = .ok (.iastore, 1) := by decide +kernel
theorem dX2_reckonGains_46 : decode cX2_reckonGains 46 = .ok (.iinc 3 1, 3) := by decide +kernel
theorem dX2_reckonGains_49 : decode cX2_reckonGains 49 = .ok (.goto (-40), 3) := by decide +kernel
theorem dX2_reckonGains_52 : decode cX2_reckonGains 52 = .ok (.iinc 2 1, 3) := by decide +kernel
theorem dX2_reckonGains_55 : decode cX2_reckonGains 55 = .ok (.goto (-53), 3) := by decide +kernel
theorem dX2_reckonGains_58 : decode cX2_reckonGains 58 = .ok (.return_, 1) := by decide +kernel
theorem dX2_chooseSizes_0 : decode cX2_chooseSizes 0 = .ok (.aload_n 0, 1) := by decide +kernel
theorem dX2_chooseSizes_1 : decode cX2_chooseSizes 1 = .ok (.getfield 25, 3) := by decide +kernel
theorem dX2_chooseSizes_4 : decode cX2_chooseSizes 4 = .ok (.iconst 0, 1) := by decide +kernel
theorem dX2_chooseSizes_5 : decode cX2_chooseSizes 5 = .ok (.invokestatic 37, 3) := by decide +kernel
theorem dX2_chooseSizes_8 : decode cX2_chooseSizes 8 = .ok (.iconst 0, 1) := by decide +kernel
theorem dX2_chooseSizes_9 : decode cX2_chooseSizes 9 = .ok (.istore_n 1, 1) := by decide +kernel
theorem dX2_chooseSizes_10 : decode cX2_chooseSizes 10 = .ok (.iconst 0, 1) := by decide +kernel
theorem dX2_chooseSizes_11 : decode cX2_chooseSizes 11 = .ok (.istore_n 2, 1) := by decide +kernel
theorem dX2_chooseSizes_12 : decode cX2_chooseSizes 12 = .ok (.iload_n 1, 1) := by decide +kernel
theorem dX2_chooseSizes_13 : decode cX2_chooseSizes 13 = .ok (.bipush 36, 2) := by decide +kernel
theorem dX2_chooseSizes_15 : decode cX2_chooseSizes 15 = .ok (.if_icmp .ge 47, 3) := by decide +kernel
theorem dX2_chooseSizes_18 : decode cX2_chooseSizes 18 = .ok (.aload_n 0, 1) := by decide +kernel
theorem dX2_chooseSizes_19 : decode cX2_chooseSizes 19 = .ok (.iload_n 1, 1) := by decide +kernel
theorem dX2_chooseSizes_20 : decode cX2_chooseSizes 20 = .ok (.iload_n 2, 1) := by decide +kernel
theorem dX2_chooseSizes_21 : decode cX2_chooseSizes 21 = .ok (.invokevirtual 53, 3) := by decide +kernel
theorem dX2_chooseSizes_24 : decode cX2_chooseSizes 24 = .ok (.istore_n 3, 1) := by decide +kernel
theorem dX2_chooseSizes_25 : decode cX2_chooseSizes 25 = .ok (.aload_n 0, 1) := by decide +kernel
theorem dX2_chooseSizes_26 : decode cX2_chooseSizes 26 = .ok (.getfield 25, 3) := by decide +kernel
theorem dX2_chooseSizes_29 : decode cX2_chooseSizes 29 = .ok (.iload_n 1, 1) := by decide +kernel
theorem dX2_chooseSizes_30 : decode cX2_chooseSizes 30 = .ok (.iload_n 3, 1) := by decide +kernel
theorem dX2_chooseSizes_31 : decode cX2_chooseSizes 31 = .ok (.iastore, 1) := by decide +kernel
theorem dX2_chooseSizes_32 : decode cX2_chooseSizes 32 = .ok (.iload_n 3, 1) := by decide +kernel
theorem dX2_chooseSizes_33 : decode cX2_chooseSizes 33 = .ok (.ifCond .le 12, 3) := by decide +kernel
theorem dX2_chooseSizes_36 : decode cX2_chooseSizes 36 = .ok (.iload_n 3, 1) := by decide +kernel
theorem dX2_chooseSizes_37 : decode cX2_chooseSizes 37 = .ok (.iload_n 1, 1) := by decide +kernel
theorem dX2_chooseSizes_38 : decode cX2_chooseSizes 38 = .ok (.iload_n 2, 1) := by decide +kernel
theorem dX2_chooseSizes_39 : decode cX2_chooseSizes 39 = .ok (.invokestatic 56, 3) := by decide +kernel
theorem dX2_chooseSizes_42 : decode cX2_chooseSizes 42 = .ok (.goto 8, 3) := by decide +kernel
theorem dX2_chooseSizes_45 : decode cX2_chooseSizes 45 = .ok (.iload_n 1, 1) := by decide +kernel
theorem dX2_chooseSizes_46 : decode cX2_chooseSizes 46 = .ok (.iload_n 2, 1) := by decide +kernel
theorem dX2_chooseSizes_47 : decode cX2_chooseSizes 47 = .ok (.invokestatic 60, 3) := by decide +kernel
theorem dX2_chooseSizes_50 : decode cX2_chooseSizes 50 = .ok (.istore_n 2, 1) := by decide +kernel
theorem dX2_chooseSizes_51 : decode cX2_chooseSizes 51 = .ok (.iload_n 1, 1) := by decide +kernel
theorem dX2_chooseSizes_52 : decode cX2_chooseSizes 52 = .ok (.iconst 1, 1) := by decide +kernel
theorem dX2_chooseSizes_53 : decode cX2_chooseSizes 53 = .ok (.iload_n 3, 1) := by decide +kernel
theorem dX2_chooseSizes_54 : decode cX2_chooseSizes 54 = .ok (.invokestatic 63, 3) := by decide +kernel
theorem dX2_chooseSizes_57 : decode cX2_chooseSizes 57 = .ok (.iadd, 1) := by decide +kernel
theorem dX2_chooseSizes_58 : decode cX2_chooseSizes 58 = .ok (.istore_n 1, 1) := by decide +kernel
theorem dX2_chooseSizes_59 : decode cX2_chooseSizes 59 = .ok (.goto (-47), 3) := by decide +kernel
theorem dX2_chooseSizes_62 : decode cX2_chooseSizes 62 = .ok (.return_, 1) := by decide +kernel
theorem dX2_chosenSize_0 : decode cX2_chosenSize 0 = .ok (.aload_n 0, 1) := by decide +kernel
theorem dX2_chosenSize_1 : decode cX2_chosenSize 1 = .ok (.iload_n 1, 1) := by decide +kernel
theorem dX2_chosenSize_2 : decode cX2_chosenSize 2 = .ok (.iload_n 2, 1) := by decide +kernel
theorem dX2_chosenSize_3 : decode cX2_chosenSize 3 = .ok (.invokevirtual 68, 3) := by decide +kernel
theorem dX2_chosenSize_6 : decode cX2_chosenSize 6 = .ok (.istore_n 3, 1) := by decide +kernel
theorem dX2_chosenSize_7 : decode cX2_chosenSize 7 = .ok (.iconst 3, 1) := by decide +kernel
theorem dX2_chosenSize_8 : decode cX2_chosenSize 8 = .ok (.istore 4, 2) := by decide +kernel
theorem dX2_chosenSize_10 : decode cX2_chosenSize 10 = .ok (.iload 4, 2) := by decide +kernel
theorem dX2_chosenSize_12 : decode cX2_chosenSize 12 = .ok (.ifCond .le 24, 3) := by decide +kernel
theorem dX2_chosenSize_15 : decode cX2_chosenSize 15 = .ok (.aload_n 0, 1) := by decide +kernel
theorem dX2_chosenSize_16 : decode cX2_chosenSize 16 = .ok (.iload 4, 2) := by decide +kernel
theorem dX2_chosenSize_18 : decode cX2_chosenSize 18 = .ok (.iload_n 1, 1) := by decide +kernel
theorem dX2_chosenSize_19 : decode cX2_chosenSize 19 = .ok (.iload_n 2, 1) := by decide +kernel
theorem dX2_chosenSize_20 : decode cX2_chosenSize 20 = .ok (.invokevirtual 71, 3) := by decide +kernel
theorem dX2_chosenSize_23 : decode cX2_chosenSize 23 = .ok (.iload_n 3, 1) := by decide +kernel
theorem dX2_chosenSize_24 : decode cX2_chosenSize 24 = .ok (.if_icmp .ne 6, 3) := by decide +kernel
theorem dX2_chosenSize_27 : decode cX2_chosenSize 27 = .ok (.iload 4, 2) := by decide +kernel
theorem dX2_chosenSize_29 : decode cX2_chosenSize 29 = .ok (.ireturn, 1) := by decide +kernel
theorem dX2_chosenSize_30 : decode cX2_chosenSize 30 = .ok (.iinc 4 (-1), 3) := by decide +kernel
theorem dX2_chosenSize_33 : decode cX2_chosenSize 33 = .ok (.goto (-23), 3) := by decide +kernel
theorem dX2_chosenSize_36 : decode cX2_chosenSize 36 = .ok (.iconst 0, 1) := by decide +kernel
theorem dX2_chosenSize_37 : decode cX2_chosenSize 37 = .ok (.ireturn, 1) := by decide +kernel
theorem dX2_scoreFrom_0 : decode cX2_scoreFrom 0 = .ok (.iload_n 1, 1) := by decide +kernel
theorem dX2_scoreFrom_1 : decode cX2_scoreFrom 1 = .ok (.iconst 0, 1) := by decide +kernel
theorem dX2_scoreFrom_2 : decode cX2_scoreFrom 2 = .ok (.bipush 35, 2) := by decide +kernel
theorem dX2_scoreFrom_4 : decode cX2_scoreFrom 4 = .ok (.invokestatic 74, 3) := by decide +kernel
theorem dX2_scoreFrom_7 : decode cX2_scoreFrom 7 = .ok (.ifCond .eq 14, 3) := by decide +kernel
theorem dX2_scoreFrom_10 : decode cX2_scoreFrom 10 = .ok (.iload_n 2, 1) := by decide +kernel
theorem dX2_scoreFrom_11 : decode cX2_scoreFrom 11 = .ok (.iconst 0, 1) := by decide +kernel
theorem dX2_scoreFrom_12 : decode cX2_scoreFrom 12 = .ok (.sipush 728, 3) := by decide +kernel
theorem dX2_scoreFrom_15 : decode cX2_scoreFrom 15 = .ok (.invokestatic 74, 3) := by decide +kernel
theorem dX2_scoreFrom_18 : decode cX2_scoreFrom 18 = .ok (.ifCond .ne 5, 3) := by decide +kernel
theorem dX2_scoreFrom_21 : decode cX2_scoreFrom 21 = .ok (.iconst 0, 1) := by decide +kernel
theorem dX2_scoreFrom_22 : decode cX2_scoreFrom 22 = .ok (.ireturn, 1) := by decide +kernel
theorem dX2_scoreFrom_23 : decode cX2_scoreFrom 23 = .ok (.iload_n 1, 1) := by decide +kernel
theorem dX2_scoreFrom_24 : decode cX2_scoreFrom 24 = .ok (.sipush 729, 3) := by decide +kernel
theorem dX2_scoreFrom_27 : decode cX2_scoreFrom 27 = .ok (.imul, 1) := by decide +kernel
theorem dX2_scoreFrom_28 : decode cX2_scoreFrom 28 = .ok (.iload_n 2, 1) := by decide +kernel
theorem dX2_scoreFrom_29 : decode cX2_scoreFrom 29 = .ok (.iadd, 1) := by decide +kernel
theorem dX2_scoreFrom_30 : decode cX2_scoreFrom 30 = .ok (.istore_n 3, 1) := by decide +kernel
theorem dX2_scoreFrom_31 : decode cX2_scoreFrom 31 = .ok (.aload_n 0, 1) := by decide +kernel
theorem dX2_scoreFrom_32 : decode cX2_scoreFrom 32 = .ok (.getfield 22, 3) := by decide +kernel
theorem dX2_scoreFrom_35 : decode cX2_scoreFrom 35 = .ok (.iload_n 3, 1) := by decide +kernel
theorem dX2_scoreFrom_36 : decode cX2_scoreFrom 36 = .ok (.iaload, 1) := by decide +kernel
theorem dX2_scoreFrom_37 : decode cX2_scoreFrom 37 = .ok (.iconst (-1), 1) := by decide +kernel
theorem dX2_scoreFrom_38 : decode cX2_scoreFrom 38 = .ok (.if_icmp .ne 55, 3) := by decide +kernel
theorem dX2_scoreFrom_41 : decode cX2_scoreFrom 41 = .ok (.aload_n 0, 1) := by decide +kernel
theorem dX2_scoreFrom_42 : decode cX2_scoreFrom 42 = .ok (.iload_n 1, 1) := by decide +kernel
theorem dX2_scoreFrom_43 : decode cX2_scoreFrom 43 = .ok (.iconst 1, 1) := by decide +kernel
theorem dX2_scoreFrom_44 : decode cX2_scoreFrom 44 = .ok (.iadd, 1) := by decide +kernel
theorem dX2_scoreFrom_45 : decode cX2_scoreFrom 45 = .ok (.iload_n 1, 1) := by decide +kernel
theorem dX2_scoreFrom_46 : decode cX2_scoreFrom 46 = .ok (.iload_n 2, 1) := by decide +kernel
theorem dX2_scoreFrom_47 : decode cX2_scoreFrom 47 = .ok (.invokestatic 60, 3) := by decide +kernel
theorem dX2_scoreFrom_50 : decode cX2_scoreFrom 50 = .ok (.invokevirtual 68, 3) := by decide +kernel
theorem dX2_scoreFrom_53 : decode cX2_scoreFrom 53 = .ok (.istore 4, 2) := by decide +kernel
theorem dX2_scoreFrom_55 : decode cX2_scoreFrom 55 = .ok (.iconst 1, 1) := by decide +kernel
theorem dX2_scoreFrom_56 : decode cX2_scoreFrom 56 = .ok (.istore 5, 2) := by decide +kernel
theorem dX2_scoreFrom_58 : decode cX2_scoreFrom 58 = .ok (.iload 5, 2) := by decide +kernel
theorem dX2_scoreFrom_60 : decode cX2_scoreFrom 60 = .ok (.iconst 3, 1) := by decide +kernel
theorem dX2_scoreFrom_61 : decode cX2_scoreFrom 61 = .ok (.if_icmp .gt 24, 3) := by decide +kernel
theorem dX2_scoreFrom_64 : decode cX2_scoreFrom 64 = .ok (.iload 4, 2) := by decide +kernel
theorem dX2_scoreFrom_66 : decode cX2_scoreFrom 66 = .ok (.aload_n 0, 1) := by decide +kernel
theorem dX2_scoreFrom_67 : decode cX2_scoreFrom 67 = .ok (.iload 5, 2) := by decide +kernel
theorem dX2_scoreFrom_69 : decode cX2_scoreFrom 69 = .ok (.iload_n 1, 1) := by decide +kernel
theorem dX2_scoreFrom_70 : decode cX2_scoreFrom 70 = .ok (.iload_n 2, 1) := by decide +kernel
theorem dX2_scoreFrom_71 : decode cX2_scoreFrom 71 = .ok (.invokevirtual 71, 3) := by decide +kernel
theorem dX2_scoreFrom_74 : decode cX2_scoreFrom 74 = .ok (.invokestatic 63, 3) := by decide +kernel
theorem dX2_scoreFrom_77 : decode cX2_scoreFrom 77 = .ok (.istore 4, 2) := by decide +kernel
theorem dX2_scoreFrom_79 : decode cX2_scoreFrom 79 = .ok (.iinc 5 1, 3) := by decide +kernel
theorem dX2_scoreFrom_82 : decode cX2_scoreFrom 82 = .ok (.goto (-24), 3) := by decide +kernel
theorem dX2_scoreFrom_85 : decode cX2_scoreFrom 85 = .ok (.aload_n 0, 1) := by decide +kernel
theorem dX2_scoreFrom_86 : decode cX2_scoreFrom 86 = .ok (.getfield 22, 3) := by decide +kernel
theorem dX2_scoreFrom_89 : decode cX2_scoreFrom 89 = .ok (.iload_n 3, 1) := by decide +kernel
theorem dX2_scoreFrom_90 : decode cX2_scoreFrom 90 = .ok (.iload 4, 2) := by decide +kernel
theorem dX2_scoreFrom_92 : decode cX2_scoreFrom 92 = .ok (.iastore, 1) := by decide +kernel
theorem dX2_scoreFrom_93 : decode cX2_scoreFrom 93 = .ok (.aload_n 0, 1) := by decide +kernel
theorem dX2_scoreFrom_94 : decode cX2_scoreFrom 94 = .ok (.getfield 22, 3) := by decide +kernel
theorem dX2_scoreFrom_97 : decode cX2_scoreFrom 97 = .ok (.iload_n 3, 1) := by decide +kernel
theorem dX2_scoreFrom_98 : decode cX2_scoreFrom 98 = .ok (.iaload, 1) := by decide +kernel
theorem dX2_scoreFrom_99 : decode cX2_scoreFrom 99 = .ok (.ireturn, 1) := by decide +kernel
theorem dX2_scoreWith_0 : decode cX2_scoreWith 0 = .ok (.aload_n 0, 1) := by decide +kernel
theorem dX2_scoreWith_1 : decode cX2_scoreWith 1 = .ok (.getfield 19, 3) := by decide +kernel
theorem dX2_scoreWith_4 : decode cX2_scoreWith 4 = .ok (.iload_n 1, 1) := by decide +kernel
theorem dX2_scoreWith_5 : decode cX2_scoreWith 5 = .ok (.bipush 36, 2) := by decide +kernel
theorem dX2_scoreWith_7 : decode cX2_scoreWith 7 = .ok (.imul, 1) := by decide +kernel
theorem dX2_scoreWith_8 : decode cX2_scoreWith 8 = .ok (.iload_n 2, 1) := by decide +kernel
theorem dX2_scoreWith_9 : decode cX2_scoreWith 9 = .ok (.iadd, 1) := by decide +kernel
theorem dX2_scoreWith_10 : decode cX2_scoreWith 10 = .ok (.iaload, 1) := by decide +kernel
theorem dX2_scoreWith_11 : decode cX2_scoreWith 11 = .ok (.istore 4, 2) := by decide +kernel
theorem dX2_scoreWith_13 : decode cX2_scoreWith 13 = .ok (.iload 4, 2) := by decide +kernel
theorem dX2_scoreWith_15 : decode cX2_scoreWith 15 = .ok (.ifCond .eq 22, 3) := by decide +kernel
theorem dX2_scoreWith_18 : decode cX2_scoreWith 18 = .ok (.iload_n 3, 1) := by decide +kernel
theorem dX2_scoreWith_19 : decode cX2_scoreWith 19 = .ok (.getstatic 78, 3) := by decide +kernel
theorem dX2_scoreWith_22 : decode cX2_scoreWith 22 = .ok (.iload_n 2, 1) := by decide +kernel
theorem dX2_scoreWith_23 : decode cX2_scoreWith 23 = .ok (.bipush 6, 2) := by decide +kernel
theorem dX2_scoreWith_25 : decode cX2_scoreWith 25 = .ok (.irem, 1) := by decide +kernel
theorem dX2_scoreWith_26 : decode cX2_scoreWith 26 = .ok (.iaload, 1) := by decide +kernel
theorem dX2_scoreWith_27 : decode cX2_scoreWith 27 = .ok (.idiv, 1) := by decide +kernel
theorem dX2_scoreWith_28 : decode cX2_scoreWith 28 = .ok (.getstatic 78, 3) := by decide +kernel
theorem dX2_scoreWith_31 : decode cX2_scoreWith 31 = .ok (.iload_n 1, 1) := by decide +kernel
theorem dX2_scoreWith_32 : decode cX2_scoreWith 32 = .ok (.iaload, 1) := by decide +kernel
theorem dX2_scoreWith_33 : decode cX2_scoreWith 33 = .ok (.irem, 1) := by decide +kernel
theorem dX2_scoreWith_34 : decode cX2_scoreWith 34 = .ok (.ifCond .eq 5, 3) := by decide +kernel
theorem dX2_scoreWith_37 : decode cX2_scoreWith 37 = .ok (.iconst (-1), 1) := by decide +kernel
theorem dX2_scoreWith_38 : decode cX2_scoreWith 38 = .ok (.ireturn, 1) := by decide +kernel
theorem dX2_scoreWith_39 : decode cX2_scoreWith 39 = .ok (.iload 4, 2) := by decide +kernel
theorem dX2_scoreWith_41 : decode cX2_scoreWith 41 = .ok (.bipush 64, 2) := by decide +kernel
theorem dX2_scoreWith_43 : decode cX2_scoreWith 43 = .ok (.imul, 1) := by decide +kernel
theorem dX2_scoreWith_44 : decode cX2_scoreWith 44 = .ok (.iconst 1, 1) := by decide +kernel
theorem dX2_scoreWith_45 : decode cX2_scoreWith 45 = .ok (.isub, 1) := by decide +kernel
theorem dX2_scoreWith_46 : decode cX2_scoreWith 46 = .ok (.aload_n 0, 1) := by decide +kernel
theorem dX2_scoreWith_47 : decode cX2_scoreWith 47 = .ok (.iload_n 2, 1) := by decide +kernel
theorem dX2_scoreWith_48 : decode cX2_scoreWith 48 = .ok (.iload_n 1, 1) := by decide +kernel
theorem dX2_scoreWith_49 : decode cX2_scoreWith 49 = .ok (.iadd, 1) := by decide +kernel
theorem dX2_scoreWith_50 : decode cX2_scoreWith 50 = .ok (.iload_n 1, 1) := by decide +kernel
theorem dX2_scoreWith_51 : decode cX2_scoreWith 51 = .ok (.iload_n 2, 1) := by decide +kernel
theorem dX2_scoreWith_52 : decode cX2_scoreWith 52 = .ok (.iload_n 3, 1) := by decide +kernel
theorem dX2_scoreWith_53 : decode cX2_scoreWith 53 = .ok (.invokestatic 56, 3) := by decide +kernel
theorem dX2_scoreWith_56 : decode cX2_scoreWith 56 = .ok (.invokevirtual 68, 3) := by decide +kernel
theorem dX2_scoreWith_59 : decode cX2_scoreWith 59 = .ok (.iadd, 1) := by decide +kernel
theorem dX2_scoreWith_60 : decode cX2_scoreWith 60 = .ok (.ireturn, 1) := by decide +kernel
theorem dX2_profileWith_0 : decode cX2_profileWith 0 = .ok (.iload_n 2, 1) := by decide +kernel
theorem dX2_profileWith_1 : decode cX2_profileWith 1 = .ok (.iload_n 0, 1) := by decide +kernel
theorem dX2_profileWith_2 : decode cX2_profileWith 2 = .ok (.iconst 1, 1) := by decide +kernel
theorem dX2_profileWith_3 : decode cX2_profileWith 3 = .ok (.isub, 1) := by decide +kernel
theorem dX2_profileWith_4 : decode cX2_profileWith 4 = .ok (.getstatic 81, 3) := by decide +kernel
theorem dX2_profileWith_7 : decode cX2_profileWith 7 = .ok (.iload_n 0, 1) := by decide +kernel
theorem dX2_profileWith_8 : decode cX2_profileWith 8 = .ok (.iaload, 1) := by decide +kernel
theorem dX2_profileWith_9 : decode cX2_profileWith 9 = .ok (.imul, 1) := by decide +kernel
theorem dX2_profileWith_10 : decode cX2_profileWith 10 = .ok (.getstatic 78, 3) := by decide +kernel
theorem dX2_profileWith_13 : decode cX2_profileWith 13 = .ok (.iload_n 1, 1) := by decide +kernel
theorem dX2_profileWith_14 : decode cX2_profileWith 14 = .ok (.bipush 6, 2) := by decide +kernel
theorem dX2_profileWith_16 : decode cX2_profileWith 16 = .ok (.irem, 1) := by decide +kernel
theorem dX2_profileWith_17 : decode cX2_profileWith 17 = .ok (.iaload, 1) := by decide +kernel
theorem dX2_profileWith_18 : decode cX2_profileWith 18 = .ok (.imul, 1) := by decide +kernel
theorem dX2_profileWith_19 : decode cX2_profileWith 19 = .ok (.iadd, 1) := by decide +kernel
theorem dX2_profileWith_20 : decode cX2_profileWith 20 = .ok (.ireturn, 1) := by decide +kernel
theorem dX2_profileWithout_0 : decode cX2_profileWithout 0 = .ok (.getstatic 78, 3) := by decide +kernel
theorem dX2_profileWithout_3 : decode cX2_profileWithout 3 = .ok (.iload_n 0, 1) := by decide +kernel
theorem dX2_profileWithout_4 : decode cX2_profileWithout 4 = .ok (.bipush 6, 2) := by decide +kernel
theorem dX2_profileWithout_6 : decode cX2_profileWithout 6 = .ok (.irem, 1) := by decide +kernel
theorem dX2_profileWithout_7 : decode cX2_profileWithout 7 = .ok (.iaload, 1) := by decide +kernel
theorem dX2_profileWithout_8 : decode cX2_profileWithout 8 = .ok (.istore_n 2, 1) := by decide +kernel
theorem dX2_profileWithout_9 : decode cX2_profileWithout 9 = .ok (.iload_n 1, 1) := by decide +kernel
theorem dX2_profileWithout_10 : decode cX2_profileWithout 10 = .ok (.iload_n 2, 1) := by decide +kernel
theorem dX2_profileWithout_11 : decode cX2_profileWithout 11 = .ok (.idiv, 1) := by decide +kernel
theorem dX2_profileWithout_12 : decode cX2_profileWithout 12 = .ok (.iconst 3, 1) := by decide +kernel
theorem dX2_profileWithout_13 : decode cX2_profileWithout 13 = .ok (.irem, 1) := by decide +kernel
theorem dX2_profileWithout_14 : decode cX2_profileWithout 14 = .ok (.ifCond .le 9, 3) := by decide +kernel
theorem dX2_profileWithout_17 : decode cX2_profileWithout 17 = .ok (.iload_n 1, 1) := by decide +kernel
theorem dX2_profileWithout_18 : decode cX2_profileWithout 18 = .ok (.iload_n 2, 1) := by decide +kernel
theorem dX2_profileWithout_19 : decode cX2_profileWithout 19 = .ok (.isub, 1) := by decide +kernel
theorem dX2_profileWithout_20 : decode cX2_profileWithout 20 = .ok (.goto 4, 3) := by decide +kernel
theorem dX2_profileWithout_23 : decode cX2_profileWithout 23 = .ok (.iload_n 1, 1) := by decide +kernel
theorem dX2_profileWithout_24 : decode cX2_profileWithout 24 = .ok (.ireturn, 1) := by decide +kernel
theorem dX2_writeCut_0 : decode cX2_writeCut 0 = .ok (.aload_n 1, 1) := by decide +kernel
theorem dX2_writeCut_1 : decode cX2_writeCut 1 = .ok (.iconst 0, 1) := by decide +kernel
theorem dX2_writeCut_2 : decode cX2_writeCut 2 = .ok (.putfield 84, 3) := by decide +kernel
theorem dX2_writeCut_5 : decode cX2_writeCut 5 = .ok (.aload_n 1, 1) := by decide +kernel
theorem dX2_writeCut_6 : decode cX2_writeCut 6 = .ok (.iconst 0, 1) := by decide +kernel
theorem dX2_writeCut_7 : decode cX2_writeCut 7 = .ok (.putfield 87, 3) := by decide +kernel
theorem dX2_writeCut_10 : decode cX2_writeCut 10 = .ok (.iconst 0, 1) := by decide +kernel
theorem dX2_writeCut_11 : decode cX2_writeCut 11 = .ok (.istore_n 2, 1) := by decide +kernel
theorem dX2_writeCut_12 : decode cX2_writeCut 12 = .ok (.iconst 0, 1) := by decide +kernel
theorem dX2_writeCut_13 : decode cX2_writeCut 13 = .ok (.istore_n 3, 1) := by decide +kernel
theorem dX2_writeCut_14 : decode cX2_writeCut 14 = .ok (.iload_n 3, 1) := by decide +kernel
theorem dX2_writeCut_15 : decode cX2_writeCut 15 = .ok (.aload_n 1, 1) := by decide +kernel
theorem dX2_writeCut_16 : decode cX2_writeCut 16 = .ok (.getfield 90, 3) := by decide +kernel
theorem dX2_writeCut_19 : decode cX2_writeCut 19 = .ok (.if_icmp .ge 107, 3) := by decide +kernel
theorem dX2_writeCut_22 : decode cX2_writeCut 22 = .ok (.iconst 0, 1) := by decide +kernel
theorem dX2_writeCut_23 : decode cX2_writeCut 23 = .ok (.istore 4, 2) := by decide +kernel
theorem dX2_writeCut_25 : decode cX2_writeCut 25 = .ok (.iload 4, 2) := by decide +kernel
theorem dX2_writeCut_27 : decode cX2_writeCut 27 = .ok (.aload_n 1, 1) := by decide +kernel
theorem dX2_writeCut_28 : decode cX2_writeCut 28 = .ok (.getfield 93, 3) := by decide +kernel
theorem dX2_writeCut_31 : decode cX2_writeCut 31 = .ok (.if_icmp .ge 89, 3) := by decide +kernel
theorem dX2_writeCut_34 : decode cX2_writeCut 34 = .ok (.iload_n 3, 1) := by decide +kernel
theorem dX2_writeCut_35 : decode cX2_writeCut 35 = .ok (.bipush 6, 2) := by decide +kernel
theorem dX2_writeCut_37 : decode cX2_writeCut 37 = .ok (.imul, 1) := by decide +kernel
theorem dX2_writeCut_38 : decode cX2_writeCut 38 = .ok (.iload 4, 2) := by decide +kernel
theorem dX2_writeCut_40 : decode cX2_writeCut 40 = .ok (.iadd, 1) := by decide +kernel
theorem dX2_writeCut_41 : decode cX2_writeCut 41 = .ok (.istore 5, 2) := by decide +kernel
theorem dX2_writeCut_43 : decode cX2_writeCut 43 = .ok (.aload_n 0, 1) := by decide +kernel
theorem dX2_writeCut_44 : decode cX2_writeCut 44 = .ok (.getfield 25, 3) := by decide +kernel
theorem dX2_writeCut_47 : decode cX2_writeCut 47 = .ok (.iload 5, 2) := by decide +kernel
theorem dX2_writeCut_49 : decode cX2_writeCut 49 = .ok (.iaload, 1) := by decide +kernel
theorem dX2_writeCut_50 : decode cX2_writeCut 50 = .ok (.istore 6, 2) := by decide +kernel
theorem dX2_writeCut_52 : decode cX2_writeCut 52 = .ok (.aload_n 1, 1) := by decide +kernel
theorem dX2_writeCut_53 : decode cX2_writeCut 53 = .ok (.getfield 96, 3) := by decide +kernel
theorem dX2_writeCut_56 : decode cX2_writeCut 56 = .ok (.iload_n 2, 1) := by decide +kernel
theorem dX2_writeCut_57 : decode cX2_writeCut 57 = .ok (.iload 6, 2) := by decide +kernel
theorem dX2_writeCut_59 : decode cX2_writeCut 59 = .ok (.iastore, 1) := by decide +kernel
theorem dX2_writeCut_60 : decode cX2_writeCut 60 = .ok (.iload 6, 2) := by decide +kernel
theorem dX2_writeCut_62 : decode cX2_writeCut 62 = .ok (.ifCond .le 49, 3) := by decide +kernel
theorem dX2_writeCut_65 : decode cX2_writeCut 65 = .ok (.aload_n 1, 1) := by decide +kernel
theorem dX2_writeCut_66 : decode cX2_writeCut 66 = .ok (.getfield 99, 3) := by decide +kernel
theorem dX2_writeCut_69 : decode cX2_writeCut 69 = .ok (.iload_n 2, 1) := by decide +kernel
theorem dX2_writeCut_70 : decode cX2_writeCut 70 = .ok (.aload_n 1, 1) := by decide +kernel
theorem dX2_writeCut_71 : decode cX2_writeCut 71 = .ok (.iload 5, 2) := by decide +kernel
theorem dX2_writeCut_73 : decode cX2_writeCut 73 = .ok (.iload 6, 2) := by decide +kernel
theorem dX2_writeCut_75 : decode cX2_writeCut 75 = .ok (.invokevirtual 49, 3) := by decide +kernel
theorem dX2_writeCut_78 : decode cX2_writeCut 78 = .ok (.iastore, 1) := by decide +kernel
theorem dX2_writeCut_79 : decode cX2_writeCut 79 = .ok (.aload_n 1, 1) := by decide +kernel
theorem dX2_writeCut_80 : decode cX2_writeCut 80 = .ok (.dup, 1) := by decide +kernel
theorem dX2_writeCut_81 : decode cX2_writeCut 81 = .ok (.getfield 84, 3) := by decide +kernel
theorem dX2_writeCut_84 : decode cX2_writeCut 84 = .ok (.aload_n 0, 1) := by decide +kernel
theorem dX2_writeCut_85 : decode cX2_writeCut 85 = .ok (.getfield 19, 3) := by decide +kernel
theorem dX2_writeCut_88 : decode cX2_writeCut 88 = .ok (.iload 6, 2) := by decide +kernel
theorem dX2_writeCut_90 : decode cX2_writeCut 90 = .ok (.bipush 36, 2) := by decide +kernel
theorem dX2_writeCut_92 : decode cX2_writeCut 92 = .ok (.imul, 1) := by decide +kernel
theorem dX2_writeCut_93 : decode cX2_writeCut 93 = .ok (.iload 5, 2) := by decide +kernel
theorem dX2_writeCut_95 : decode cX2_writeCut 95 = .ok (.iadd, 1) := by decide +kernel
theorem dX2_writeCut_96 : decode cX2_writeCut 96 = .ok (.iaload, 1) := by decide +kernel
theorem dX2_writeCut_97 : decode cX2_writeCut 97 = .ok (.iadd, 1) := by decide +kernel
theorem dX2_writeCut_98 : decode cX2_writeCut 98 = .ok (.putfield 84, 3) := by decide +kernel
theorem dX2_writeCut_101 : decode cX2_writeCut 101 = .ok (.aload_n 1, 1) := by decide +kernel
theorem dX2_writeCut_102 : decode cX2_writeCut 102 = .ok (.dup, 1) := by decide +kernel
theorem dX2_writeCut_103 : decode cX2_writeCut 103 = .ok (.getfield 87, 3) := by decide +kernel
theorem dX2_writeCut_106 : decode cX2_writeCut 106 = .ok (.iconst 1, 1) := by decide +kernel
theorem dX2_writeCut_107 : decode cX2_writeCut 107 = .ok (.iadd, 1) := by decide +kernel
theorem dX2_writeCut_108 : decode cX2_writeCut 108 = .ok (.putfield 87, 3) := by decide +kernel
theorem dX2_writeCut_111 : decode cX2_writeCut 111 = .ok (.iinc 2 1, 3) := by decide +kernel
theorem dX2_writeCut_114 : decode cX2_writeCut 114 = .ok (.iinc 4 1, 3) := by decide +kernel
theorem dX2_writeCut_117 : decode cX2_writeCut 117 = .ok (.goto (-92), 3) := by decide +kernel
theorem dX2_writeCut_120 : decode cX2_writeCut 120 = .ok (.iinc 3 1, 3) := by decide +kernel
theorem dX2_writeCut_123 : decode cX2_writeCut 123 = .ok (.goto (-109), 3) := by decide +kernel
theorem dX2_writeCut_126 : decode cX2_writeCut 126 = .ok (.return_, 1) := by decide +kernel
theorem dX3_init_0 : decode cX3_init 0 = .ok (.aload_n 0, 1) := by decide +kernel
theorem dX3_init_1 : decode cX3_init 1 = .ok (.invokespecial 1, 3) := by decide +kernel
theorem dX3_init_4 : decode cX3_init 4 = .ok (.aload_n 0, 1) := by decide +kernel
theorem dX3_init_5 : decode cX3_init 5 = .ok (.iconst 0, 1) := by decide +kernel
theorem dX3_init_6 : decode cX3_init 6 = .ok (.putfield 7, 3) := by decide +kernel
theorem dX3_init_9 : decode cX3_init 9 = .ok (.aload_n 0, 1) := by decide +kernel
theorem dX3_init_10 : decode cX3_init 10 = .ok (.bipush 100, 2) := by decide +kernel
theorem dX3_init_12 : decode cX3_init 12 = .ok (.putfield 13, 3) := by decide +kernel
theorem dX3_init_15 : decode cX3_init 15 = .ok (.aload_n 0, 1) := by decide +kernel
theorem dX3_init_16 : decode cX3_init 16 = .ok (.iconst 0, 1) := by decide +kernel
theorem dX3_init_17 : decode cX3_init 17 = .ok (.putfield 16, 3) := by decide +kernel
theorem dX3_init_20 : decode cX3_init 20 = .ok (.aload_n 0, 1) := by decide +kernel
theorem dX3_init_21 : decode cX3_init 21 = .ok (.iconst 0, 1) := by decide +kernel
theorem dX3_init_22 : decode cX3_init 22 = .ok (.putfield 19, 3) := by decide +kernel
theorem dX3_init_25 : decode cX3_init 25 = .ok (.return_, 1) := by decide +kernel
theorem dX3_breaksAt_0 : decode cX3_breaksAt 0 = .ok (.aload_n 0, 1) := by decide +kernel
theorem dX3_breaksAt_1 : decode cX3_breaksAt 1 = .ok (.dup, 1) := by decide +kernel
theorem dX3_breaksAt_2 : decode cX3_breaksAt 2 = .ok (.getfield 7, 3) := by decide +kernel
theorem dX3_breaksAt_5 : decode cX3_breaksAt 5 = .ok (.iload_n 1, 1) := by decide +kernel
theorem dX3_breaksAt_6 : decode cX3_breaksAt 6 = .ok (.iadd, 1) := by decide +kernel
theorem dX3_breaksAt_7 : decode cX3_breaksAt 7 = .ok (.putfield 7, 3) := by decide +kernel
theorem dX3_breaksAt_10 : decode cX3_breaksAt 10 = .ok (.aload_n 0, 1) := by decide +kernel
theorem dX3_breaksAt_11 : decode cX3_breaksAt 11 = .ok (.getfield 7, 3) := by decide +kernel
theorem dX3_breaksAt_14 : decode cX3_breaksAt 14 = .ok (.aload_n 0, 1) := by decide +kernel
theorem dX3_breaksAt_15 : decode cX3_breaksAt 15 = .ok (.getfield 13, 3) := by decide +kernel
theorem dX3_breaksAt_18 : decode cX3_breaksAt 18 = .ok (.isub, 1) := by decide +kernel
theorem dX3_breaksAt_19 : decode cX3_breaksAt 19 = .ok (.istore_n 2, 1) := by decide +kernel
theorem dX3_breaksAt_20 : decode cX3_breaksAt 20 = .ok (.iload_n 2, 1) := by decide +kernel
theorem dX3_breaksAt_21 : decode cX3_breaksAt 21 = .ok (.ifCond .le 32, 3) := by decide +kernel
theorem dX3_breaksAt_24 : decode cX3_breaksAt 24 = .ok (.iload_n 2, 1) := by decide +kernel
theorem dX3_breaksAt_25 : decode cX3_breaksAt 25 = .ok (.bipush 7, 2) := by decide +kernel
theorem dX3_breaksAt_27 : decode cX3_breaksAt 27 = .ok (.invokestatic 22, 3) := by decide +kernel
theorem dX3_breaksAt_30 : decode cX3_breaksAt 30 = .ok (.ifCond .ne 11, 3) := by decide +kernel
theorem dX3_breaksAt_33 : decode cX3_breaksAt 33 = .ok (.iload_n 2, 1) := by decide +kernel
theorem dX3_breaksAt_34 : decode cX3_breaksAt 34 = .ok (.iload_n 1, 1) := by decide +kernel
theorem dX3_breaksAt_35 : decode cX3_breaksAt 35 = .ok (.invokestatic 22, 3) := by decide +kernel
theorem dX3_breaksAt_38 : decode cX3_breaksAt 38 = .ok (.ifCond .eq 15, 3) := by decide +kernel
theorem dX3_breaksAt_41 : decode cX3_breaksAt 41 = .ok (.aload_n 0, 1) := by decide +kernel
theorem dX3_breaksAt_42 : decode cX3_breaksAt 42 = .ok (.dup, 1) := by decide +kernel
theorem dX3_breaksAt_43 : decode cX3_breaksAt 43 = .ok (.getfield 19, 3) := by decide +kernel
theorem dX3_breaksAt_46 : decode cX3_breaksAt 46 = .ok (.iconst 1, 1) := by decide +kernel
theorem dX3_breaksAt_47 : decode cX3_breaksAt 47 = .ok (.iadd, 1) := by decide +kernel
theorem dX3_breaksAt_48 : decode cX3_breaksAt 48 = .ok (.putfield 19, 3) := by decide +kernel
theorem dX3_breaksAt_51 : decode cX3_breaksAt 51 = .ok (.iconst 1, 1) := by decide +kernel
theorem dX3_breaksAt_52 : decode cX3_breaksAt 52 = .ok (.ireturn, 1) := by decide +kernel
theorem dX3_breaksAt_53 : decode cX3_breaksAt 53 = .ok (.aload_n 0, 1) := by decide +kernel
theorem dX3_breaksAt_54 : decode cX3_breaksAt 54 = .ok (.dup, 1) := by decide +kernel
theorem dX3_breaksAt_55 : decode cX3_breaksAt 55 = .ok (.getfield 16, 3) := by decide +kernel
theorem dX3_breaksAt_58 : decode cX3_breaksAt 58 = .ok (.iconst 1, 1) := by decide +kernel
theorem dX3_breaksAt_59 : decode cX3_breaksAt 59 = .ok (.iadd, 1) := by decide +kernel
theorem dX3_breaksAt_60 : decode cX3_breaksAt 60 = .ok (.putfield 16, 3) := by decide +kernel
theorem dX3_breaksAt_63 : decode cX3_breaksAt 63 = .ok (.iconst 0, 1) := by decide +kernel
theorem dX3_breaksAt_64 : decode cX3_breaksAt 64 = .ok (.ireturn, 1) := by decide +kernel
theorem dX3_isMultiple_0 : decode cX3_isMultiple 0 = .ok (.iload_n 1, 1) := by decide +kernel
theorem dX3_isMultiple_1 : decode cX3_isMultiple 1 = .ok (.ifCond .le 13, 3) := by decide +kernel
theorem dX3_isMultiple_4 : decode cX3_isMultiple 4 = .ok (.iload_n 0, 1) := by decide +kernel
theorem dX3_isMultiple_5 : decode cX3_isMultiple 5 = .ok (.iload_n 1, 1) := by decide +kernel
theorem dX3_isMultiple_6 : decode cX3_isMultiple 6 = .ok (.irem, 1) := by decide +kernel
theorem dX3_isMultiple_7 : decode cX3_isMultiple 7 = .ok (.ifCond .ne 7, 3) := by decide +kernel
theorem dX3_isMultiple_10 : decode cX3_isMultiple 10 = .ok (.iconst 1, 1) := by decide +kernel
theorem dX3_isMultiple_11 : decode cX3_isMultiple 11 = .ok (.goto 4, 3) := by decide +kernel
theorem dX3_isMultiple_14 : decode cX3_isMultiple 14 = .ok (.iconst 0, 1) := by decide +kernel
theorem dX3_isMultiple_15 : decode cX3_isMultiple 15 = .ok (.ireturn, 1) := by decide +kernel
theorem dX4_init_0 : decode cX4_init 0 = .ok (.aload_n 0, 1) := by decide +kernel
theorem dX4_init_1 : decode cX4_init 1 = .ok (.invokespecial 3, 3) := by decide +kernel
theorem dX4_init_4 : decode cX4_init 4 = .ok (.aload_n 0, 1) := by decide +kernel
theorem dX4_init_5 : decode cX4_init 5 = .ok (.iconst (-1), 1) := by decide +kernel
theorem dX4_init_6 : decode cX4_init 6 = .ok (.putfield 9, 3) := by decide +kernel
theorem dX4_init_9 : decode cX4_init 9 = .ok (.aload_n 0, 1) := by decide +kernel
theorem dX4_init_10 : decode cX4_init 10 = .ok (.iload_n 1, 1) := by decide +kernel
theorem dX4_init_11 : decode cX4_init 11 = .ok (.putfield 15, 3) := by decide +kernel
theorem dX4_init_14 : decode cX4_init 14 = .ok (.aload_n 0, 1) := by decide +kernel
theorem dX4_init_15 : decode cX4_init 15 = .ok (.iload_n 2, 1) := by decide +kernel
theorem dX4_init_16 : decode cX4_init 16 = .ok (.putfield 18, 3) := by decide +kernel
theorem dX4_init_19 : decode cX4_init 19 = .ok (.aload_n 0, 1) := by decide +kernel
theorem dX4_init_20 : decode cX4_init 20 = .ok (.iload_n 3, 1) := by decide +kernel
theorem dX4_init_21 : decode cX4_init 21 = .ok (.putfield 21, 3) := by decide +kernel
theorem dX4_init_24 : decode cX4_init 24 = .ok (.aload_n 0, 1) := by decide +kernel
theorem dX4_init_25 : decode cX4_init 25 = .ok (.iload 4, 2) := by decide +kernel
theorem dX4_init_27 : decode cX4_init 27 = .ok (.putfield 24, 3) := by decide +kernel
theorem dX4_init_30 : decode cX4_init 30 = .ok (.aload_n 0, 1) := by decide +kernel
theorem dX4_init_31 : decode cX4_init 31 = .ok (.iload 5, 2) := by decide +kernel
theorem dX4_init_33 : decode cX4_init 33 = .ok (.putfield 27, 3) := by decide +kernel
theorem dX4_init_36 : decode cX4_init 36 = .ok (.aload_n 0, 1) := by decide +kernel
theorem dX4_init_37 : decode cX4_init 37 = .ok (.iload 6, 2) := by decide +kernel
theorem dX4_init_39 : decode cX4_init 39 = .ok (.putfield 30, 3) := by decide +kernel
theorem dX4_init_42 : decode cX4_init 42 = .ok (.aload_n 0, 1) := by decide +kernel
theorem dX4_init_43 : decode cX4_init 43 = .ok (.iload 7, 2) := by decide +kernel
theorem dX4_init_45 : decode cX4_init 45 = .ok (.putfield 33, 3) := by decide +kernel
theorem dX4_init_48 : decode cX4_init 48 = .ok (.return_, 1) := by decide +kernel
theorem dX4_takes_0 : decode cX4_takes 0 = .ok (.aload_n 1, 1) := by decide +kernel
theorem dX4_takes_1 : decode cX4_takes 1 = .ok (.getfield 36, 3) := by decide +kernel
theorem dX4_takes_4 : decode cX4_takes 4 = .ok (.iconst (-1), 1) := by decide +kernel
theorem dX4_takes_5 : decode cX4_takes 5 = .ok (.if_icmp .ne 47, 3) := by decide +kernel
theorem dX4_takes_8 : decode cX4_takes 8 = .ok (.aload_n 1, 1) := by decide +kernel
theorem dX4_takes_9 : decode cX4_takes 9 = .ok (.getfield 41, 3) := by decide +kernel
theorem dX4_takes_12 : decode cX4_takes 12 = .ok (.aload_n 0, 1) := by decide +kernel
theorem dX4_takes_13 : decode cX4_takes 13 = .ok (.getfield 18, 3) := by decide +kernel
theorem dX4_takes_16 : decode cX4_takes 16 = .ok (.if_icmp .ne 36, 3) := by decide +kernel
theorem dX4_takes_19 : decode cX4_takes 19 = .ok (.aload_n 1, 1) := by decide +kernel
theorem dX4_takes_20 : decode cX4_takes 20 = .ok (.getfield 42, 3) := by decide +kernel
theorem dX4_takes_23 : decode cX4_takes 23 = .ok (.aload_n 0, 1) := by decide +kernel
theorem dX4_takes_24 : decode cX4_takes 24 = .ok (.getfield 21, 3) := by decide +kernel
theorem dX4_takes_27 : decode cX4_takes 27 = .ok (.if_icmp .ne 25, 3) := by decide +kernel
theorem dX4_takes_30 : decode cX4_takes 30 = .ok (.aload_n 1, 1) := by decide +kernel
theorem dX4_takes_31 : decode cX4_takes 31 = .ok (.getfield 43, 3) := by decide +kernel
theorem dX4_takes_34 : decode cX4_takes 34 = .ok (.aload_n 0, 1) := by decide +kernel
theorem dX4_takes_35 : decode cX4_takes 35 = .ok (.getfield 24, 3) := by decide +kernel
theorem dX4_takes_38 : decode cX4_takes 38 = .ok (.aload_n 0, 1) := by decide +kernel
theorem dX4_takes_39 : decode cX4_takes 39 = .ok (.getfield 27, 3) := by decide +kernel
theorem dX4_takes_42 : decode cX4_takes 42 = .ok (.invokestatic 46, 3) := by decide +kernel
theorem dX4_takes_45 : decode cX4_takes 45 = .ok (.ifCond .eq 7, 3) := by decide +kernel
theorem dX4_takes_48 : decode cX4_takes 48 = .ok (.iconst 1, 1) := by decide +kernel
theorem dX4_takes_49 : decode cX4_takes 49 = .ok (.goto 4, 3) := by decide +kernel
theorem dX4_takes_52 : decode cX4_takes 52 = .ok (.iconst 0, 1) := by decide +kernel
theorem dX4_takes_53 : decode cX4_takes 53 = .ok (.ireturn, 1) := by decide +kernel
theorem dX4_payOn_0 : decode cX4_payOn 0 = .ok (.aload_n 0, 1) := by decide +kernel
theorem dX4_payOn_1 : decode cX4_payOn 1 = .ok (.getfield 15, 3) := by decide +kernel
theorem dX4_payOn_4 : decode cX4_payOn 4 = .ok (.iload_n 1, 1) := by decide +kernel
theorem dX4_payOn_5 : decode cX4_payOn 5 = .ok (.aload_n 0, 1) := by decide +kernel
theorem dX4_payOn_6 : decode cX4_payOn 6 = .ok (.getfield 30, 3) := by decide +kernel
theorem dX4_payOn_9 : decode cX4_payOn 9 = .ok (.if_icmp .le 12, 3) := by decide +kernel
theorem dX4_payOn_12 : decode cX4_payOn 12 = .ok (.aload_n 0, 1) := by decide +kernel
theorem dX4_payOn_13 : decode cX4_payOn 13 = .ok (.getfield 33, 3) := by decide +kernel
theorem dX4_payOn_16 : decode cX4_payOn 16 = .ok (.iconst 2, 1) := by decide +kernel
theorem dX4_payOn_17 : decode cX4_payOn 17 = .ok (.idiv, 1) := by decide +kernel
theorem dX4_payOn_18 : decode cX4_payOn 18 = .ok (.goto 7, 3) := by decide +kernel
theorem dX4_payOn_21 : decode cX4_payOn 21 = .ok (.aload_n 0, 1) := by decide +kernel
theorem dX4_payOn_22 : decode cX4_payOn 22 = .ok (.getfield 33, 3) := by decide +kernel
theorem dX4_payOn_25 : decode cX4_payOn 25 = .ok (.imul, 1) := by decide +kernel
theorem dX4_payOn_26 : decode cX4_payOn 26 = .ok (.ireturn, 1) := by decide +kernel
theorem dX5_init_0 : decode cX5_init 0 = .ok (.aload_n 0, 1) := by decide +kernel
theorem dX5_init_1 : decode cX5_init 1 = .ok (.invokespecial 3, 3) := by decide +kernel
theorem dX5_init_4 : decode cX5_init 4 = .ok (.aload_n 0, 1) := by decide +kernel
theorem dX5_init_5 : decode cX5_init 5 = .ok (.bipush 36, 2) := by decide +kernel
theorem dX5_init_7 : decode cX5_init 7 = .ok (.newarray .int, 2) := by decide +kernel
theorem dX5_init_9 : decode cX5_init 9 = .ok (.putfield 9, 3) := by decide +kernel
theorem dX5_init_12 : decode cX5_init 12 = .ok (.aload_n 0, 1) := by decide +kernel
theorem dX5_init_13 : decode cX5_init 13 = .ok (.iconst 0, 1) := by decide +kernel
theorem dX5_init_14 : decode cX5_init 14 = .ok (.putfield 15, 3) := by decide +kernel
theorem dX5_init_17 : decode cX5_init 17 = .ok (.aload_n 0, 1) := by decide +kernel
theorem dX5_init_18 : decode cX5_init 18 = .ok (.bipush 36, 2) := by decide +kernel
theorem dX5_init_20 : decode cX5_init 20 = .ok (.newarray .int, 2) := by decide +kernel
theorem dX5_init_22 : decode cX5_init 22 = .ok (.putfield 19, 3) := by decide +kernel
theorem dX5_init_25 : decode cX5_init 25 = .ok (.aload_n 0, 1) := by decide +kernel
theorem dX5_init_26 : decode cX5_init 26 = .ok (.bipush 36, 2) := by decide +kernel
theorem dX5_init_28 : decode cX5_init 28 = .ok (.newarray .int, 2) := by decide +kernel
theorem dX5_init_30 : decode cX5_init 30 = .ok (.putfield 22, 3) := by decide +kernel
theorem dX5_init_33 : decode cX5_init 33 = .ok (.aload_n 0, 1) := by decide +kernel
theorem dX5_init_34 : decode cX5_init 34 = .ok (.iconst 0, 1) := by decide +kernel
theorem dX5_init_35 : decode cX5_init 35 = .ok (.putfield 25, 3) := by decide +kernel
theorem dX5_init_38 : decode cX5_init 38 = .ok (.aload_n 0, 1) := by decide +kernel
theorem dX5_init_39 : decode cX5_init 39 = .ok (.iconst 0, 1) := by decide +kernel
theorem dX5_init_40 : decode cX5_init 40 = .ok (.putfield 29, 3) := by decide +kernel
theorem dX5_init_43 : decode cX5_init 43 = .ok (.aload_n 0, 1) := by decide +kernel
theorem dX5_init_44 : decode cX5_init 44 = .ok (.iconst (-1), 1) := by decide +kernel
theorem dX5_init_45 : decode cX5_init 45 = .ok (.putfield 32, 3) := by decide +kernel
theorem dX5_init_48 : decode cX5_init 48 = .ok (.aload_n 0, 1) := by decide +kernel
theorem dX5_init_49 : decode cX5_init 49 = .ok (.iload_n 1, 1) := by decide +kernel
theorem dX5_init_50 : decode cX5_init 50 = .ok (.putfield 35, 3) := by decide +kernel
theorem dX5_init_53 : decode cX5_init 53 = .ok (.aload_n 0, 1) := by decide +kernel
theorem dX5_init_54 : decode cX5_init 54 = .ok (.iload_n 2, 1) := by decide +kernel
theorem dX5_init_55 : decode cX5_init 55 = .ok (.putfield 38, 3) := by decide +kernel
theorem dX5_init_58 : decode cX5_init 58 = .ok (.aload_n 0, 1) := by decide +kernel
theorem dX5_init_59 : decode cX5_init 59 = .ok (.iload_n 3, 1) := by decide +kernel
theorem dX5_init_60 : decode cX5_init 60 = .ok (.putfield 41, 3) := by decide +kernel
theorem dX5_init_63 : decode cX5_init 63 = .ok (.return_, 1) := by decide +kernel
theorem dX5_takesSquares_0 : decode cX5_takesSquares 0 = .ok (.iconst 0, 1) := by decide +kernel
theorem dX5_takesSquares_1 : decode cX5_takesSquares 1 = .ok (.istore_n 2, 1) := by decide +kernel
theorem dX5_takesSquares_2 : decode cX5_takesSquares 2 = .ok (.iload_n 2, 1) := by decide +kernel
theorem dX5_takesSquares_3 : decode cX5_takesSquares 3 = .ok (.aload_n 0, 1) := by decide +kernel
theorem dX5_takesSquares_4 : decode cX5_takesSquares 4 = .ok (.getfield 35, 3) := by decide +kernel
theorem dX5_takesSquares_7 : decode cX5_takesSquares 7 = .ok (.if_icmp .ge 59, 3) := by decide +kernel
theorem dX5_takesSquares_10 : decode cX5_takesSquares 10 = .ok (.iconst 0, 1) := by decide +kernel
theorem dX5_takesSquares_11 : decode cX5_takesSquares 11 = .ok (.istore_n 3, 1) := by decide +kernel
theorem dX5_takesSquares_12 : decode cX5_takesSquares 12 = .ok (.iload_n 3, 1) := by decide +kernel
theorem dX5_takesSquares_13 : decode cX5_takesSquares 13 = .ok (.aload_n 0, 1) := by decide +kernel
theorem dX5_takesSquares_14 : decode cX5_takesSquares 14 = .ok (.getfield 38, 3) := by decide +kernel
theorem dX5_takesSquares_17 : decode cX5_takesSquares 17 = .ok (.if_icmp .ge 43, 3) := by decide +kernel
theorem dX5_takesSquares_20 : decode cX5_takesSquares 20 = .ok (.aload_n 1, 1) := by decide +kernel
theorem dX5_takesSquares_21 : decode cX5_takesSquares 21 = .ok (.iload_n 2, 1) := by decide +kernel
theorem dX5_takesSquares_22 : decode cX5_takesSquares 22 = .ok (.iaload, 1) := by decide +kernel
theorem dX5_takesSquares_23 : decode cX5_takesSquares 23 = .ok (.iconst 4, 1) := by decide +kernel
theorem dX5_takesSquares_24 : decode cX5_takesSquares 24 = .ok (.iload_n 3, 1) := by decide +kernel
theorem dX5_takesSquares_25 : decode cX5_takesSquares 25 = .ok (.imul, 1) := by decide +kernel
theorem dX5_takesSquares_26 : decode cX5_takesSquares 26 = .ok (.iushr, 1) := by decide +kernel
theorem dX5_takesSquares_27 : decode cX5_takesSquares 27 = .ok (.bipush 15, 2) := by decide +kernel
theorem dX5_takesSquares_29 : decode cX5_takesSquares 29 = .ok (.iand, 1) := by decide +kernel
theorem dX5_takesSquares_30 : decode cX5_takesSquares 30 = .ok (.istore 4, 2) := by decide +kernel
theorem dX5_takesSquares_32 : decode cX5_takesSquares 32 = .ok (.iload 4, 2) := by decide +kernel
theorem dX5_takesSquares_34 : decode cX5_takesSquares 34 = .ok (.bipush 9, 2) := by decide +kernel
theorem dX5_takesSquares_36 : decode cX5_takesSquares 36 = .ok (.if_icmp .le 5, 3) := by decide +kernel
theorem dX5_takesSquares_39 : decode cX5_takesSquares 39 = .ok (.iconst 0, 1) := by decide +kernel
theorem dX5_takesSquares_40 : decode cX5_takesSquares 40 = .ok (.ireturn, 1) := by decide +kernel
theorem dX5_takesSquares_41 : decode cX5_takesSquares 41 = .ok (.aload_n 0, 1) := by decide +kernel
theorem dX5_takesSquares_42 : decode cX5_takesSquares 42 = .ok (.getfield 9, 3) := by decide +kernel
theorem dX5_takesSquares_45 : decode cX5_takesSquares 45 = .ok (.iload_n 2, 1) := by decide +kernel
theorem dX5_takesSquares_46 : decode cX5_takesSquares 46 = .ok (.bipush 6, 2) := by decide +kernel
theorem dX5_takesSquares_48 : decode cX5_takesSquares 48 = .ok (.imul, 1) := by decide +kernel
theorem dX5_takesSquares_49 : decode cX5_takesSquares 49 = .ok (.iload_n 3, 1) := by decide +kernel
theorem dX5_takesSquares_50 : decode cX5_takesSquares 50 = .ok (.iadd, 1) := by decide +kernel
theorem dX5_takesSquares_51 : decode cX5_takesSquares 51 = .ok (.iload 4, 2) := by decide +kernel
theorem dX5_takesSquares_53 : decode cX5_takesSquares 53 = .ok (.iastore, 1) := by decide +kernel
theorem dX5_takesSquares_54 : decode cX5_takesSquares 54 = .ok (.iinc 3 1, 3) := by decide +kernel
theorem dX5_takesSquares_57 : decode cX5_takesSquares 57 = .ok (.goto (-45), 3) := by decide +kernel
theorem dX5_takesSquares_60 : decode cX5_takesSquares 60 = .ok (.iinc 2 1, 3) := by decide +kernel
theorem dX5_takesSquares_63 : decode cX5_takesSquares 63 = .ok (.goto (-61), 3) := by decide +kernel
theorem dX5_takesSquares_66 : decode cX5_takesSquares 66 = .ok (.iconst 1, 1) := by decide +kernel
theorem dX5_takesSquares_67 : decode cX5_takesSquares 67 = .ok (.ireturn, 1) := by decide +kernel
theorem dX5_blankThickness_0 : decode cX5_blankThickness 0 = .ok (.iload_n 1, 1) := by decide +kernel
theorem dX5_blankThickness_1 : decode cX5_blankThickness 1 = .ok (.bipush 6, 2) := by decide +kernel
theorem dX5_blankThickness_3 : decode cX5_blankThickness 3 = .ok (.idiv, 1) := by decide +kernel
theorem dX5_blankThickness_4 : decode cX5_blankThickness 4 = .ok (.istore_n 3, 1) := by decide +kernel
theorem dX5_blankThickness_5 : decode cX5_blankThickness 5 = .ok (.iload_n 1, 1) := by decide +kernel
theorem dX5_blankThickness_6 : decode cX5_blankThickness 6 = .ok (.bipush 6, 2) := by decide +kernel
theorem dX5_blankThickness_8 : decode cX5_blankThickness 8 = .ok (.irem, 1) := by decide +kernel
theorem dX5_blankThickness_9 : decode cX5_blankThickness 9 = .ok (.istore 4, 2) := by decide +kernel
theorem dX5_blankThickness_11 : decode cX5_blankThickness 11 = .ok (.iload_n 3, 1) := by decide +kernel
theorem dX5_blankThickness_12 : decode cX5_blankThickness 12 = .ok (.iload_n 2, 1) := by decide +kernel
theorem dX5_blankThickness_13 : decode cX5_blankThickness 13 = .ok (.iadd, 1) := by decide +kernel
theorem dX5_blankThickness_14 : decode cX5_blankThickness 14 = .ok (.bipush 6, 2) := by decide +kernel
theorem dX5_blankThickness_16 : decode cX5_blankThickness 16 = .ok (.if_icmp .gt 12, 3) := by decide +kernel
theorem dX5_blankThickness_19 : decode cX5_blankThickness 19 = .ok (.iload 4, 2) := by decide +kernel
theorem dX5_blankThickness_21 : decode cX5_blankThickness 21 = .ok (.iload_n 2, 1) := by decide +kernel
theorem dX5_blankThickness_22 : decode cX5_blankThickness 22 = .ok (.iadd, 1) := by decide +kernel
theorem dX5_blankThickness_23 : decode cX5_blankThickness 23 = .ok (.bipush 6, 2) := by decide +kernel
theorem dX5_blankThickness_25 : decode cX5_blankThickness 25 = .ok (.if_icmp .le 5, 3) := by decide +kernel
theorem dX5_blankThickness_28 : decode cX5_blankThickness 28 = .ok (.iconst 0, 1) := by decide +kernel
theorem dX5_blankThickness_29 : decode cX5_blankThickness 29 = .ok (.ireturn, 1) := by decide +kernel
theorem dX5_blankThickness_30 : decode cX5_blankThickness 30 = .ok (.bipush 9, 2) := by decide +kernel
theorem dX5_blankThickness_32 : decode cX5_blankThickness 32 = .ok (.istore 5, 2) := by decide +kernel
theorem dX5_blankThickness_34 : decode cX5_blankThickness 34 = .ok (.iload_n 3, 1) := by decide +kernel
theorem dX5_blankThickness_35 : decode cX5_blankThickness 35 = .ok (.istore 6, 2) := by decide +kernel
theorem dX5_blankThickness_37 : decode cX5_blankThickness 37 = .ok (.iload 6, 2) := by decide +kernel
theorem dX5_blankThickness_39 : decode cX5_blankThickness 39 = .ok (.iload_n 3, 1) := by decide +kernel
theorem dX5_blankThickness_40 : decode cX5_blankThickness 40 = .ok (.iload_n 2, 1) := by decide +kernel
theorem dX5_blankThickness_41 : decode cX5_blankThickness 41 = .ok (.iadd, 1) := by decide +kernel
theorem dX5_blankThickness_42 : decode cX5_blankThickness 42 = .ok (.if_icmp .ge 48, 3) := by decide +kernel
theorem dX5_blankThickness_45 : decode cX5_blankThickness 45 = .ok (.iload 4, 2) := by decide +kernel
theorem dX5_blankThickness_47 : decode cX5_blankThickness 47 = .ok (.istore 7, 2) := by decide +kernel
theorem dX5_blankThickness_49 : decode cX5_blankThickness 49 = .ok (.iload 7, 2) := by decide +kernel
theorem dX5_blankThickness_51 : decode cX5_blankThickness 51 = .ok (.iload 4, 2) := by decide +kernel
theorem dX5_blankThickness_53 : decode cX5_blankThickness 53 = .ok (.iload_n 2, 1) := by decide +kernel
theorem dX5_blankThickness_54 : decode cX5_blankThickness 54 = .ok (.iadd, 1) := by decide +kernel
theorem dX5_blankThickness_55 : decode cX5_blankThickness 55 = .ok (.if_icmp .ge 29, 3) := by decide +kernel
theorem dX5_blankThickness_58 : decode cX5_blankThickness 58 = .ok (.iload 5, 2) := by decide +kernel
theorem dX5_blankThickness_60 : decode cX5_blankThickness 60 = .ok (.aload_n 0, 1) := by decide +kernel
theorem dX5_blankThickness_61 : decode cX5_blankThickness 61 = .ok (.getfield 9, 3) := by decide +kernel
theorem dX5_blankThickness_64 : decode cX5_blankThickness 64 = .ok (.iload 6, 2) := by decide +kernel
theorem dX5_blankThickness_66 : decode cX5_blankThickness 66 = .ok (.bipush 6, 2) := by decide +kernel
theorem dX5_blankThickness_68 : decode cX5_blankThickness 68 = .ok (.imul, 1) := by decide +kernel
theorem dX5_blankThickness_69 : decode cX5_blankThickness 69 = .ok (.iload 7, 2) := by decide +kernel
theorem dX5_blankThickness_71 : decode cX5_blankThickness 71 = .ok (.iadd, 1) := by decide +kernel
theorem dX5_blankThickness_72 : decode cX5_blankThickness 72 = .ok (.iaload, 1) := by decide +kernel
theorem dX5_blankThickness_73 : decode cX5_blankThickness 73 = .ok (.invokestatic 44, 3) := by decide +kernel
theorem dX5_blankThickness_76 : decode cX5_blankThickness 76 = .ok (.istore 5, 2) := by decide +kernel
theorem dX5_blankThickness_78 : decode cX5_blankThickness 78 = .ok (.iinc 7 1, 3) := by decide +kernel
theorem dX5_blankThickness_81 : decode cX5_blankThickness 81 = .ok (.goto (-32), 3) := by decide +kernel
theorem dX5_blankThickness_84 : decode cX5_blankThickness 84 = .ok (.iinc 6 1, 3) := by decide +kernel
theorem dX5_blankThickness_87 : decode cX5_blankThickness 87 = .ok (.goto (-50), 3) := by decide +kernel
theorem dX5_blankThickness_90 : decode cX5_blankThickness 90 = .ok (.iload 5, 2) := by decide +kernel
theorem dX5_blankThickness_92 : decode cX5_blankThickness 92 = .ok (.ireturn, 1) := by decide +kernel
theorem dJ9_max_7cf53_0 : decode cJ9_max_7cf53 0 = .ok (.iload_n 0, 1) := by decide +kernel
theorem dJ9_max_7cf53_1 : decode cJ9_max_7cf53 1 = .ok (.iload_n 1, 1) := by decide +kernel
theorem dJ9_max_7cf53_2 : decode cJ9_max_7cf53 2 = .ok (.if_icmp .lt 7, 3) := by decide +kernel
theorem dJ9_max_7cf53_5 : decode cJ9_max_7cf53 5 = .ok (.iload_n 0, 1) := by decide +kernel
theorem dJ9_max_7cf53_6 : decode cJ9_max_7cf53 6 = .ok (.goto 4, 3) := by decide +kernel
theorem dJ9_max_7cf53_9 : decode cJ9_max_7cf53 9 = .ok (.iload_n 1, 1) := by decide +kernel
theorem dJ9_max_7cf53_10 : decode cJ9_max_7cf53 10 = .ok (.ireturn, 1) := by decide +kernel
theorem dJ9_min_7cf53_0 : decode cJ9_min_7cf53 0 = .ok (.iload_n 0, 1) := by decide +kernel
theorem dJ9_min_7cf53_1 : decode cJ9_min_7cf53 1 = .ok (.iload_n 1, 1) := by decide +kernel
theorem dJ9_min_7cf53_2 : decode cJ9_min_7cf53 2 = .ok (.if_icmp .gt 7, 3) := by decide +kernel
theorem dJ9_min_7cf53_5 : decode cJ9_min_7cf53 5 = .ok (.iload_n 0, 1) := by decide +kernel
theorem dJ9_min_7cf53_6 : decode cJ9_min_7cf53 6 = .ok (.goto 4, 3) := by decide +kernel
theorem dJ9_min_7cf53_9 : decode cJ9_min_7cf53 9 = .ok (.iload_n 1, 1) := by decide +kernel
theorem dJ9_min_7cf53_10 : decode cJ9_min_7cf53 10 = .ok (.ireturn, 1) := by decide +kernel
theorem dJ7_fill_53178_0 : decode cJ7_fill_53178 0 = .ok (.iconst 0, 1) := by decide +kernel
theorem dJ7_fill_53178_1 : decode cJ7_fill_53178 1 = .ok (.istore_n 2, 1) := by decide +kernel
theorem dJ7_fill_53178_2 : decode cJ7_fill_53178 2 = .ok (.aload_n 0, 1) := by decide +kernel
theorem dJ7_fill_53178_3 : decode cJ7_fill_53178 3 = .ok (.arraylength, 1) := by decide +kernel
theorem dJ7_fill_53178_4 : decode cJ7_fill_53178 4 = .ok (.istore_n 3, 1) := by decide +kernel
theorem dJ7_fill_53178_5 : decode cJ7_fill_53178 5 = .ok (.iload_n 2, 1) := by decide +kernel
theorem dJ7_fill_53178_6 : decode cJ7_fill_53178 6 = .ok (.iload_n 3, 1) := by decide +kernel
theorem dJ7_fill_53178_7 : decode cJ7_fill_53178 7 = .ok (.if_icmp .ge 13, 3) := by decide +kernel
theorem dJ7_fill_53178_10 : decode cJ7_fill_53178 10 = .ok (.aload_n 0, 1) := by decide +kernel
theorem dJ7_fill_53178_11 : decode cJ7_fill_53178 11 = .ok (.iload_n 2, 1) := by decide +kernel
theorem dJ7_fill_53178_12 : decode cJ7_fill_53178 12 = .ok (.iload_n 1, 1) := by decide +kernel
theorem dJ7_fill_53178_13 : decode cJ7_fill_53178 13 = .ok (.iastore, 1) := by decide +kernel
theorem dJ7_fill_53178_14 : decode cJ7_fill_53178 14 = .ok (.iinc 2 1, 3) := by decide +kernel
theorem dJ7_fill_53178_17 : decode cJ7_fill_53178 17 = .ok (.goto (-12), 3) := by decide +kernel
theorem dJ7_fill_53178_20 : decode cJ7_fill_53178 20 = .ok (.return_, 1) := by decide +kernel

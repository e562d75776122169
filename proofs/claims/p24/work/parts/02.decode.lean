theorem dX0_init_0 : decode cX0_init 0 = .ok (.aload_n 0, 1) := by decide +kernel
theorem dX0_init_1 : decode cX0_init 1 = .ok (.invokespecial 3, 3) := by decide +kernel
theorem dX0_init_4 : decode cX0_init 4 = .ok (.aload_n 0, 1) := by decide +kernel
theorem dX0_init_5 : decode cX0_init 5 = .ok (.aload_n 1, 1) := by decide +kernel
theorem dX0_init_6 : decode cX0_init 6 = .ok (.putfield 9, 3) := by decide +kernel
theorem dX0_init_9 : decode cX0_init 9 = .ok (.aload_n 0, 1) := by decide +kernel
theorem dX0_init_10 : decode cX0_init 10 = .ok (.iload_n 2, 1) := by decide +kernel
theorem dX0_init_11 : decode cX0_init 11 = .ok (.putfield 15, 3) := by decide +kernel
theorem dX0_init_14 : decode cX0_init 14 = .ok (.aload_n 0, 1) := by decide +kernel
theorem dX0_init_15 : decode cX0_init 15 = .ok (.iload_n 3, 1) := by decide +kernel
theorem dX0_init_16 : decode cX0_init 16 = .ok (.putfield 19, 3) := by decide +kernel
theorem dX0_init_19 : decode cX0_init 19 = .ok (.aload_n 0, 1) := by decide +kernel
theorem dX0_init_20 : decode cX0_init 20 = .ok (.iload 4, 2) := by decide +kernel
theorem dX0_init_22 : decode cX0_init 22 = .ok (.putfield 22, 3) := by decide +kernel
theorem dX0_init_25 : decode cX0_init 25 = .ok (.return_, 1) := by decide +kernel
theorem dX0_fits_0 : decode cX0_fits 0 = .ok (.iload_n 1, 1) := by decide +kernel
theorem dX0_fits_1 : decode cX0_fits 1 = .ok (.iconst (-1), 1) := by decide +kernel
theorem dX0_fits_2 : decode cX0_fits 2 = .ok (.if_icmp .eq 11, 3) := by decide +kernel
theorem dX0_fits_5 : decode cX0_fits 5 = .ok (.iload_n 1, 1) := by decide +kernel
theorem dX0_fits_6 : decode cX0_fits 6 = .ok (.aload_n 0, 1) := by decide +kernel
theorem dX0_fits_7 : decode cX0_fits 7 = .ok (.getfield 19, 3) := by decide +kernel
theorem dX0_fits_10 : decode cX0_fits 10 = .ok (.if_icmp .ne 31, 3) := by decide +kernel
theorem dX0_fits_13 : decode cX0_fits 13 = .ok (.iload_n 2, 1) := by decide +kernel
theorem dX0_fits_14 : decode cX0_fits 14 = .ok (.iconst (-1), 1) := by decide +kernel
theorem dX0_fits_15 : decode cX0_fits 15 = .ok (.if_icmp .eq 11, 3) := by decide +kernel
theorem dX0_fits_18 : decode cX0_fits 18 = .ok (.iload_n 2, 1) := by decide +kernel
theorem dX0_fits_19 : decode cX0_fits 19 = .ok (.aload_n 0, 1) := by decide +kernel
theorem dX0_fits_20 : decode cX0_fits 20 = .ok (.getfield 22, 3) := by decide +kernel
theorem dX0_fits_23 : decode cX0_fits 23 = .ok (.if_icmp .ne 18, 3) := by decide +kernel
theorem dX0_fits_26 : decode cX0_fits 26 = .ok (.aload_n 0, 1) := by decide +kernel
theorem dX0_fits_27 : decode cX0_fits 27 = .ok (.getfield 9, 3) := by decide +kernel
theorem dX0_fits_30 : decode cX0_fits 30 = .ok (.getfield 25, 3) := by decide +kernel
theorem dX0_fits_33 : decode cX0_fits 33 = .ok (.iload_n 3, 1) := by decide +kernel
theorem dX0_fits_34 : decode cX0_fits 34 = .ok (.if_icmp .lt 7, 3) := by decide +kernel
theorem dX0_fits_37 : decode cX0_fits 37 = .ok (.iconst 1, 1) := by decide +kernel
theorem dX0_fits_38 : decode cX0_fits 38 = .ok (.goto 4, 3) := by decide +kernel
theorem dX0_fits_41 : decode cX0_fits 41 = .ok (.iconst 0, 1) := by decide +kernel
theorem dX0_fits_42 : decode cX0_fits 42 = .ok (.ireturn, 1) := by decide +kernel
theorem dX1_init_0 : decode cX1_init 0 = .ok (.aload_n 0, 1) := by decide +kernel
theorem dX1_init_1 : decode cX1_init 1 = .ok (.invokespecial 1, 3) := by decide +kernel
theorem dX1_init_4 : decode cX1_init 4 = .ok (.aload_n 0, 1) := by decide +kernel
theorem dX1_init_5 : decode cX1_init 5 = .ok (.iload_n 1, 1) := by decide +kernel
theorem dX1_init_6 : decode cX1_init 6 = .ok (.putfield 7, 3) := by decide +kernel
theorem dX1_init_9 : decode cX1_init 9 = .ok (.aload_n 0, 1) := by decide +kernel
theorem dX1_init_10 : decode cX1_init 10 = .ok (.iload_n 2, 1) := by decide +kernel
theorem dX1_init_11 : decode cX1_init 11 = .ok (.putfield 13, 3) := by decide +kernel
theorem dX1_init_14 : decode cX1_init 14 = .ok (.aload_n 0, 1) := by decide +kernel
theorem dX1_init_15 : decode cX1_init 15 = .ok (.iload_n 3, 1) := by decide +kernel
theorem dX1_init_16 : decode cX1_init 16 = .ok (.putfield 16, 3) := by decide +kernel
theorem dX1_init_19 : decode cX1_init 19 = .ok (.return_, 1) := by decide +kernel
theorem dX2_init_0 : decode cX2_init 0 = .ok (.aload_n 0, 1) := by decide +kernel
theorem dX2_init_1 : decode cX2_init 1 = .ok (.invokespecial 3, 3) := by decide +kernel
theorem dX2_init_4 : decode cX2_init 4 = .ok (.aload_n 0, 1) := by decide +kernel
theorem dX2_init_5 : decode cX2_init 5 = .ok (.bipush 8, 2) := by decide +kernel
theorem dX2_init_7 : decode cX2_init 7 = .ok (.newarray .int, 2) := by decide +kernel
theorem dX2_init_9 : decode cX2_init 9 = .ok (.putfield 9, 3) := by decide +kernel
theorem dX2_init_12 : decode cX2_init 12 = .ok (.aload_n 0, 1) := by decide +kernel
theorem dX2_init_13 : decode cX2_init 13 = .ok (.iconst 1, 1) := by decide +kernel
theorem dX2_init_14 : decode cX2_init 14 = .ok (.putfield 15, 3) := by decide +kernel
theorem dX2_init_17 : decode cX2_init 17 = .ok (.return_, 1) := by decide +kernel
theorem dX2_isEmpty_0 : decode cX2_isEmpty 0 = .ok (.aload_n 0, 1) := by decide +kernel
theorem dX2_isEmpty_1 : decode cX2_isEmpty 1 = .ok (.getfield 19, 3) := by decide +kernel
theorem dX2_isEmpty_4 : decode cX2_isEmpty 4 = .ok (.ifCond .ne 7, 3) := by decide +kernel
theorem dX2_isEmpty_7 : decode cX2_isEmpty 7 = .ok (.iconst 1, 1) := by decide +kernel
theorem dX2_isEmpty_8 : decode cX2_isEmpty 8 = .ok (.goto 4, 3) := by decide +kernel
theorem dX2_isEmpty_11 : decode cX2_isEmpty 11 = .ok (.iconst 0, 1) := by decide +kernel
theorem dX2_isEmpty_12 : decode cX2_isEmpty 12 = .ok (.ireturn, 1) := by decide +kernel
theorem dX2_put_0 : decode cX2_put 0 = .ok (.aload_n 0, 1) := by decide +kernel
theorem dX2_put_1 : decode cX2_put 1 = .ok (.getfield 19, 3) := by decide +kernel
theorem dX2_put_4 : decode cX2_put 4 = .ok (.ifCond .lt 15, 3) := by decide +kernel
theorem dX2_put_7 : decode cX2_put 7 = .ok (.aload_n 0, 1) := by decide +kernel
theorem dX2_put_8 : decode cX2_put 8 = .ok (.getfield 19, 3) := by decide +kernel
theorem dX2_put_11 : decode cX2_put 11 = .ok (.aload_n 0, 1) := by decide +kernel
theorem dX2_put_12 : decode cX2_put 12 = .ok (.getfield 9, 3) := by decide +kernel
theorem dX2_put_15 : decode cX2_put 15 = .ok (.arraylength, 1) := by decide +kernel
theorem dX2_put_16 : decode cX2_put 16 = .ok (.if_icmp .lt 5, 3) := by decide +kernel
theorem dX2_put_19 : decode cX2_put 19 = .ok (.iconst 0, 1) := by decide +kernel
theorem dX2_put_20 : decode cX2_put 20 = .ok (.ireturn, 1) := by decide +kernel
theorem dX2_put_21 : decode cX2_put 21 = .ok (.aload_n 0, 1) := by decide +kernel
theorem dX2_put_22 : decode cX2_put 22 = .ok (.getfield 9, 3) := by decide +kernel
theorem dX2_put_25 : decode cX2_put 25 = .ok (.aload_n 0, 1) := by decide +kernel
theorem dX2_put_26 : decode cX2_put 26 = .ok (.getfield 19, 3) := by decide +kernel
theorem dX2_put_29 : decode cX2_put 29 = .ok (.iload_n 1, 1) := by decide +kernel
theorem dX2_put_30 : decode cX2_put 30 = .ok (.iastore, 1) := by decide +kernel
theorem dX2_put_31 : decode cX2_put 31 = .ok (.aload_n 0, 1) := by decide +kernel
theorem dX2_put_32 : decode cX2_put 32 = .ok (.dup, 1) := by decide +kernel
theorem dX2_put_33 : decode cX2_put 33 = .ok (.getfield 19, 3) := by decide +kernel
theorem dX2_put_36 : decode cX2_put 36 = .ok (.iconst 1, 1) := by decide +kernel
theorem dX2_put_37 : decode cX2_put 37 = .ok (.iadd, 1) := by decide +kernel
theorem dX2_put_38 : decode cX2_put 38 = .ok (.putfield 19, 3) := by decide +kernel
theorem dX2_put_41 : decode cX2_put 41 = .ok (.iconst 1, 1) := by decide +kernel
theorem dX2_put_42 : decode cX2_put 42 = .ok (.ireturn, 1) := by decide +kernel
theorem dX2_has_0 : decode cX2_has 0 = .ok (.iload_n 1, 1) := by decide +kernel
theorem dX2_has_1 : decode cX2_has 1 = .ok (.ifCond .lt 24, 3) := by decide +kernel
theorem dX2_has_4 : decode cX2_has 4 = .ok (.iload_n 1, 1) := by decide +kernel
theorem dX2_has_5 : decode cX2_has 5 = .ok (.aload_n 0, 1) := by decide +kernel
theorem dX2_has_6 : decode cX2_has 6 = .ok (.getfield 19, 3) := by decide +kernel
theorem dX2_has_9 : decode cX2_has 9 = .ok (.if_icmp .ge 16, 3) := by decide +kernel
theorem dX2_has_12 : decode cX2_has 12 = .ok (.iload_n 1, 1) := by decide +kernel
theorem dX2_has_13 : decode cX2_has 13 = .ok (.aload_n 0, 1) := by decide +kernel
theorem dX2_has_14 : decode cX2_has 14 = .ok (.getfield 9, 3) := by decide +kernel
theorem dX2_has_17 : decode cX2_has 17 = .ok (.arraylength, 1) := by decide +kernel
theorem dX2_has_18 : decode cX2_has 18 = .ok (.if_icmp .ge 7, 3) := by decide +kernel
theorem dX2_has_21 : decode cX2_has 21 = .ok (.iconst 1, 1) := by decide +kernel
theorem dX2_has_22 : decode cX2_has 22 = .ok (.goto 4, 3) := by decide +kernel
theorem dX2_has_25 : decode cX2_has 25 = .ok (.iconst 0, 1) := by decide +kernel
theorem dX2_has_26 : decode cX2_has 26 = .ok (.ireturn, 1) := by decide +kernel
theorem dX2_valueAt_0 : decode cX2_valueAt 0 = .ok (.aload_n 0, 1) := by decide +kernel
theorem dX2_valueAt_1 : decode cX2_valueAt 1 = .ok (.iload_n 1, 1) := by decide +kernel
theorem dX2_valueAt_2 : decode cX2_valueAt 2 = .ok (.invokevirtual 22, 3) := by decide +kernel
theorem dX2_valueAt_5 : decode cX2_valueAt 5 = .ok (.ifCond .eq 12, 3) := by decide +kernel
theorem dX2_valueAt_8 : decode cX2_valueAt 8 = .ok (.aload_n 0, 1) := by decide +kernel
theorem dX2_valueAt_9 : decode cX2_valueAt 9 = .ok (.getfield 9, 3) := by decide +kernel
theorem dX2_valueAt_12 : decode cX2_valueAt 12 = .ok (.iload_n 1, 1) := by decide +kernel
theorem dX2_valueAt_13 : decode cX2_valueAt 13 = .ok (.iaload, 1) := by decide +kernel
theorem dX2_valueAt_14 : decode cX2_valueAt 14 = .ok (.goto 4, 3) := by decide +kernel
theorem dX2_valueAt_17 : decode cX2_valueAt 17 = .ok (.iconst (-1), 1) := by decide +kernel
theorem dX2_valueAt_18 : decode cX2_valueAt 18 = .ok (.ireturn, 1) := by decide +kernel
theorem dX2_hasLinesOf_0 : decode cX2_hasLinesOf 0 = .ok (.aload_n 0, 1) := by decide +kernel
theorem dX2_hasLinesOf_1 : decode cX2_hasLinesOf 1 = .ok (.getfield 19, 3) := by decide +kernel
theorem dX2_hasLinesOf_4 : decode cX2_hasLinesOf 4 = .ok (.aload_n 1, 1) := by decide +kernel
theorem dX2_hasLinesOf_5 : decode cX2_hasLinesOf 5 = .ok (.getfield 19, 3) := by decide +kernel
theorem dX2_hasLinesOf_8 : decode cX2_hasLinesOf 8 = .ok (.if_icmp .eq 5, 3) := by decide +kernel
theorem dX2_hasLinesOf_11 : decode cX2_hasLinesOf 11 = .ok (.iconst 0, 1) := by decide +kernel
theorem dX2_hasLinesOf_12 : decode cX2_hasLinesOf 12 = .ok (.ireturn, 1) := by decide +kernel
theorem dX2_hasLinesOf_13 : decode cX2_hasLinesOf 13 = .ok (.iconst 0, 1) := by decide +kernel
theorem dX2_hasLinesOf_14 : decode cX2_hasLinesOf 14 = .ok (.istore_n 2, 1) := by decide +kernel
theorem dX2_hasLinesOf_15 : decode cX2_hasLinesOf 15 = .ok (.iload_n 2, 1) := by decide +kernel
theorem dX2_hasLinesOf_16 : decode cX2_hasLinesOf 16 = .ok (.aload_n 0, 1) := by decide +kernel
theorem dX2_hasLinesOf_17 : decode cX2_hasLinesOf 17 = .ok (.getfield 19, 3) := by decide +kernel
theorem dX2_hasLinesOf_20 : decode cX2_hasLinesOf 20 = .ok (.if_icmp .ge 24, 3) := by decide +kernel
theorem dX2_hasLinesOf_23 : decode cX2_hasLinesOf 23 = .ok (.aload_n 0, 1) := by decide +kernel
theorem dX2_hasLinesOf_24 : decode cX2_hasLinesOf 24 = .ok (.iload_n 2, 1) := by decide +kernel
theorem dX2_hasLinesOf_25 : decode cX2_hasLinesOf 25 = .ok (.invokevirtual 26, 3) := by decide +kernel
theorem dX2_hasLinesOf_28 : decode cX2_hasLinesOf 28 = .ok (.aload_n 1, 1) := by decide +kernel
theorem dX2_hasLinesOf_29 : decode cX2_hasLinesOf 29 = .ok (.iload_n 2, 1) := by decide +kernel
theorem dX2_hasLinesOf_30 : decode cX2_hasLinesOf 30 = .ok (.invokevirtual 26, 3) := by decide +kernel
theorem dX2_hasLinesOf_33 : decode cX2_hasLinesOf 33 = .ok (.if_icmp .eq 5, 3) := by decide +kernel
theorem dX2_hasLinesOf_36 : decode cX2_hasLinesOf 36 = .ok (.iconst 0, 1) := by decide +kernel
theorem dX2_hasLinesOf_37 : decode cX2_hasLinesOf 37 = .ok (.ireturn, 1) := by decide +kernel
theorem dX2_hasLinesOf_38 : decode cX2_hasLinesOf 38 = .ok (.iinc 2 1, 3) := by decide +kernel
theorem dX2_hasLinesOf_41 : decode cX2_hasLinesOf 41 = .ok (.goto (-26), 3) := by decide +kernel
theorem dX2_hasLinesOf_44 : decode cX2_hasLinesOf 44 = .ok (.iconst 1, 1) := by decide +kernel
theorem dX2_hasLinesOf_45 : decode cX2_hasLinesOf 45 = .ok (.ireturn, 1) := by decide +kernel
theorem dX3_init_0 : decode cX3_init 0 = .ok (.aload_n 0, 1) := by decide +kernel
theorem dX3_init_1 : decode cX3_init 1 = .ok (.invokespecial 3, 3) := by decide +kernel
theorem dX3_init_4 : decode cX3_init 4 = .ok (.aload_n 0, 1) := by decide +kernel
theorem dX3_init_5 : decode cX3_init 5 = .ok (.iconst 0, 1) := by decide +kernel
theorem dX3_init_6 : decode cX3_init 6 = .ok (.putfield 9, 3) := by decide +kernel
theorem dX3_init_9 : decode cX3_init 9 = .ok (.aload_n 0, 1) := by decide +kernel
theorem dX3_init_10 : decode cX3_init 10 = .ok (.bipush 99, 2) := by decide +kernel
theorem dX3_init_12 : decode cX3_init 12 = .ok (.putfield 15, 3) := by decide +kernel
theorem dX3_init_15 : decode cX3_init 15 = .ok (.aload_n 0, 1) := by decide +kernel
theorem dX3_init_16 : decode cX3_init 16 = .ok (.iconst (-1), 1) := by decide +kernel
theorem dX3_init_17 : decode cX3_init 17 = .ok (.putfield 18, 3) := by decide +kernel
theorem dX3_init_20 : decode cX3_init 20 = .ok (.aload_n 0, 1) := by decide +kernel
theorem dX3_init_21 : decode cX3_init 21 = .ok (.iload_n 1, 1) := by decide +kernel
theorem dX3_init_22 : decode cX3_init 22 = .ok (.putfield 21, 3) := by decide +kernel
theorem dX3_init_25 : decode cX3_init 25 = .ok (.return_, 1) := by decide +kernel
theorem dX3_sees_0 : decode cX3_sees 0 = .ok (.aload_n 1, 1) := by decide +kernel
theorem dX3_sees_1 : decode cX3_sees 1 = .ok (.getfield 25, 3) := by decide +kernel
theorem dX3_sees_4 : decode cX3_sees 4 = .ok (.ifCond .eq 5, 3) := by decide +kernel
theorem dX3_sees_7 : decode cX3_sees 7 = .ok (.iconst 0, 1) := by decide +kernel
theorem dX3_sees_8 : decode cX3_sees 8 = .ok (.ireturn, 1) := by decide +kernel
theorem dX3_sees_9 : decode cX3_sees 9 = .ok (.aload_n 1, 1) := by decide +kernel
theorem dX3_sees_10 : decode cX3_sees 10 = .ok (.getfield 30, 3) := by decide +kernel
theorem dX3_sees_13 : decode cX3_sees 13 = .ok (.iconst (-1), 1) := by decide +kernel
theorem dX3_sees_14 : decode cX3_sees 14 = .ok (.if_icmp .ne 8, 3) := by decide +kernel
theorem dX3_sees_17 : decode cX3_sees 17 = .ok (.aload_n 0, 1) := by decide +kernel
theorem dX3_sees_18 : decode cX3_sees 18 = .ok (.getfield 21, 3) := by decide +kernel
theorem dX3_sees_21 : decode cX3_sees 21 = .ok (.ireturn, 1) := by decide +kernel
theorem dX3_sees_22 : decode cX3_sees 22 = .ok (.aload_n 1, 1) := by decide +kernel
theorem dX3_sees_23 : decode cX3_sees 23 = .ok (.getfield 30, 3) := by decide +kernel
theorem dX3_sees_26 : decode cX3_sees 26 = .ok (.aload_n 0, 1) := by decide +kernel
theorem dX3_sees_27 : decode cX3_sees 27 = .ok (.getfield 9, 3) := by decide +kernel
theorem dX3_sees_30 : decode cX3_sees 30 = .ok (.if_icmp .lt 18, 3) := by decide +kernel
theorem dX3_sees_33 : decode cX3_sees 33 = .ok (.aload_n 1, 1) := by decide +kernel
theorem dX3_sees_34 : decode cX3_sees 34 = .ok (.getfield 30, 3) := by decide +kernel
theorem dX3_sees_37 : decode cX3_sees 37 = .ok (.aload_n 0, 1) := by decide +kernel
theorem dX3_sees_38 : decode cX3_sees 38 = .ok (.getfield 15, 3) := by decide +kernel
theorem dX3_sees_41 : decode cX3_sees 41 = .ok (.if_icmp .gt 7, 3) := by decide +kernel
theorem dX3_sees_44 : decode cX3_sees 44 = .ok (.iconst 1, 1) := by decide +kernel
theorem dX3_sees_45 : decode cX3_sees 45 = .ok (.goto 4, 3) := by decide +kernel
theorem dX3_sees_48 : decode cX3_sees 48 = .ok (.iconst 0, 1) := by decide +kernel
theorem dX3_sees_49 : decode cX3_sees 49 = .ok (.ireturn, 1) := by decide +kernel
theorem dX4_init_0 : decode cX4_init 0 = .ok (.aload_n 0, 1) := by decide +kernel
theorem dX4_init_1 : decode cX4_init 1 = .ok (.invokespecial 1, 3) := by decide +kernel
theorem dX4_init_4 : decode cX4_init 4 = .ok (.aload_n 0, 1) := by decide +kernel
theorem dX4_init_5 : decode cX4_init 5 = .ok (.new 7, 3) := by decide +kernel
theorem dX4_init_8 : decode cX4_init 8 = .ok (.dup, 1) := by decide +kernel
theorem dX4_init_9 : decode cX4_init 9 = .ok (.invokespecial 9, 3) := by decide +kernel
theorem dX4_init_12 : decode cX4_init 12 = .ok (.putfield 10, 3) := by decide +kernel
theorem dX4_init_15 : decode cX4_init 15 = .ok (.return_, 1) := by decide +kernel
theorem dX4_isLike_0 : decode cX4_isLike 0 = .ok (.aload_n 0, 1) := by decide +kernel
theorem dX4_isLike_1 : decode cX4_isLike 1 = .ok (.getfield 16, 3) := by decide +kernel
theorem dX4_isLike_4 : decode cX4_isLike 4 = .ok (.aload_n 1, 1) := by decide +kernel
theorem dX4_isLike_5 : decode cX4_isLike 5 = .ok (.getfield 16, 3) := by decide +kernel
theorem dX4_isLike_8 : decode cX4_isLike 8 = .ok (.if_icmp .ne 20, 3) := by decide +kernel
theorem dX4_isLike_11 : decode cX4_isLike 11 = .ok (.aload_n 0, 1) := by decide +kernel
theorem dX4_isLike_12 : decode cX4_isLike 12 = .ok (.getfield 10, 3) := by decide +kernel
theorem dX4_isLike_15 : decode cX4_isLike 15 = .ok (.invokevirtual 20, 3) := by decide +kernel
theorem dX4_isLike_18 : decode cX4_isLike 18 = .ok (.aload_n 1, 1) := by decide +kernel
theorem dX4_isLike_19 : decode cX4_isLike 19 = .ok (.getfield 10, 3) := by decide +kernel
theorem dX4_isLike_22 : decode cX4_isLike 22 = .ok (.invokevirtual 20, 3) := by decide +kernel
theorem dX4_isLike_25 : decode cX4_isLike 25 = .ok (.if_icmp .eq 5, 3) := by decide +kernel
theorem dX4_isLike_28 : decode cX4_isLike 28 = .ok (.iconst 0, 1) := by decide +kernel
theorem dX4_isLike_29 : decode cX4_isLike 29 = .ok (.ireturn, 1) := by decide +kernel
theorem dX4_isLike_30 : decode cX4_isLike 30 = .ok (.iconst 0, 1) := by decide +kernel
theorem dX4_isLike_31 : decode cX4_isLike 31 = .ok (.istore_n 2, 1) := by decide +kernel
theorem dX4_isLike_32 : decode cX4_isLike 32 = .ok (.iload_n 2, 1) := by decide +kernel
theorem dX4_isLike_33 : decode cX4_isLike 33 = .ok (.aload_n 0, 1) := by decide +kernel
theorem dX4_isLike_34 : decode cX4_isLike 34 = .ok (.getfield 10, 3) := by decide +kernel
theorem dX4_isLike_37 : decode cX4_isLike 37 = .ok (.invokevirtual 20, 3) := by decide +kernel
theorem dX4_isLike_40 : decode cX4_isLike 40 = .ok (.if_icmp .ge 50, 3) := by decide +kernel
theorem dX4_isLike_43 : decode cX4_isLike 43 = .ok (.iload_n 2, 1) := by decide +kernel
theorem dX4_isLike_44 : decode cX4_isLike 44 = .ok (.aload_n 1, 1) := by decide +kernel
theorem dX4_isLike_45 : decode cX4_isLike 45 = .ok (.getfield 10, 3) := by decide +kernel
theorem dX4_isLike_48 : decode cX4_isLike 48 = .ok (.invokevirtual 20, 3) := by decide +kernel
theorem dX4_isLike_51 : decode cX4_isLike 51 = .ok (.if_icmp .ge 39, 3) := by decide +kernel
theorem dX4_isLike_54 : decode cX4_isLike 54 = .ok (.aload_n 0, 1) := by decide +kernel
theorem dX4_isLike_55 : decode cX4_isLike 55 = .ok (.getfield 10, 3) := by decide +kernel
theorem dX4_isLike_58 : decode cX4_isLike 58 = .ok (.iload_n 2, 1) := by decide +kernel
theorem dX4_isLike_59 : decode cX4_isLike 59 = .ok (.invokevirtual 24, 3) := by decide +kernel
theorem dX4_isLike_62 : decode cX4_isLike 62 = .ok (.checkcast 28, 3) := by decide +kernel
theorem dX4_isLike_65 : decode cX4_isLike 65 = .ok (.aload_n 1, 1) := by decide +kernel
theorem dX4_isLike_66 : decode cX4_isLike 66 = .ok (.getfield 10, 3) := by decide +kernel
theorem dX4_isLike_69 : decode cX4_isLike 69 = .ok (.iload_n 2, 1) := by decide +kernel
theorem dX4_isLike_70 : decode cX4_isLike 70 = .ok (.invokevirtual 24, 3) := by decide +kernel
theorem dX4_isLike_73 : decode cX4_isLike 73 = .ok (.checkcast 28, 3) := by decide +kernel
theorem dX4_isLike_76 : decode cX4_isLike 76 = .ok (.invokevirtual 30, 3) := by decide +kernel
theorem dX4_isLike_79 : decode cX4_isLike 79 = .ok (.ifCond .ne 5, 3) := by decide +kernel
theorem dX4_isLike_82 : decode cX4_isLike 82 = .ok (.iconst 0, 1) := by decide +kernel
theorem dX4_isLike_83 : decode cX4_isLike 83 = .ok (.ireturn, 1) := by decide +kernel
theorem dX4_isLike_84 : decode cX4_isLike 84 = .ok (.iinc 2 1, 3) := by decide +kernel
theorem dX4_isLike_87 : decode cX4_isLike 87 = .ok (.goto (-55), 3) := by decide +kernel
theorem dX4_isLike_90 : decode cX4_isLike 90 = .ok (.iconst 1, 1) := by decide +kernel
theorem dX4_isLike_91 : decode cX4_isLike 91 = .ok (.ireturn, 1) := by decide +kernel
theorem dX5_init_0 : decode cX5_init 0 = .ok (.aload_n 0, 1) := by decide +kernel
theorem dX5_init_1 : decode cX5_init 1 = .ok (.invokespecial 3, 3) := by decide +kernel
theorem dX5_init_4 : decode cX5_init 4 = .ok (.aload_n 0, 1) := by decide +kernel
theorem dX5_init_5 : decode cX5_init 5 = .ok (.new 9, 3) := by decide +kernel
theorem dX5_init_8 : decode cX5_init 8 = .ok (.dup, 1) := by decide +kernel
theorem dX5_init_9 : decode cX5_init 9 = .ok (.iconst 0, 1) := by decide +kernel
theorem dX5_init_10 : decode cX5_init 10 = .ok (.iconst 0, 1) := by decide +kernel
theorem dX5_init_11 : decode cX5_init 11 = .ok (.iconst 1, 1) := by decide +kernel
theorem dX5_init_12 : decode cX5_init 12 = .ok (.invokespecial 11, 3) := by decide +kernel
theorem dX5_init_15 : decode cX5_init 15 = .ok (.putfield 14, 3) := by decide +kernel
theorem dX5_init_18 : decode cX5_init 18 = .ok (.aload_n 0, 1) := by decide +kernel
theorem dX5_init_19 : decode cX5_init 19 = .ok (.new 18, 3) := by decide +kernel
theorem dX5_init_22 : decode cX5_init 22 = .ok (.dup, 1) := by decide +kernel
theorem dX5_init_23 : decode cX5_init 23 = .ok (.invokespecial 20, 3) := by decide +kernel
theorem dX5_init_26 : decode cX5_init 26 = .ok (.putfield 21, 3) := by decide +kernel
theorem dX5_init_29 : decode cX5_init 29 = .ok (.aload_n 0, 1) := by decide +kernel
theorem dX5_init_30 : decode cX5_init 30 = .ok (.new 18, 3) := by decide +kernel
theorem dX5_init_33 : decode cX5_init 33 = .ok (.dup, 1) := by decide +kernel
theorem dX5_init_34 : decode cX5_init 34 = .ok (.invokespecial 20, 3) := by decide +kernel
theorem dX5_init_37 : decode cX5_init 37 = .ok (.putfield 25, 3) := by decide +kernel
theorem dX5_init_40 : decode cX5_init 40 = .ok (.aload_n 0, 1) := by decide +kernel
theorem dX5_init_41 : decode cX5_init 41 = .ok (.new 28, 3) := by decide +kernel
theorem dX5_init_44 : decode cX5_init 44 = .ok (.dup, 1) := by decide +kernel
theorem dX5_init_45 : decode cX5_init 45 = .ok (.invokespecial 30, 3) := by decide +kernel
theorem dX5_init_48 : decode cX5_init 48 = .ok (.putfield 31, 3) := by decide +kernel
theorem dX5_init_51 : decode cX5_init 51 = .ok (.aload_n 0, 1) := by decide +kernel
theorem dX5_init_52 : decode cX5_init 52 = .ok (.new 35, 3) := by decide +kernel
theorem dX5_init_55 : decode cX5_init 55 = .ok (.dup, 1) := by decide +kernel
theorem dX5_init_56 : decode cX5_init 56 = .ok (.invokespecial 37, 3) := by decide +kernel
theorem dX5_init_59 : decode cX5_init 59 = .ok (.putfield 38, 3) := by decide +kernel
theorem dX5_init_62 : decode cX5_init 62 = .ok (.aload_n 0, 1) := by decide +kernel
theorem dX5_init_63 : decode cX5_init 63 = .ok (.new 18, 3) := by decide +kernel
theorem dX5_init_66 : decode cX5_init 66 = .ok (.dup, 1) := by decide +kernel
theorem dX5_init_67 : decode cX5_init 67 = .ok (.invokespecial 20, 3) := by decide +kernel
theorem dX5_init_70 : decode cX5_init 70 = .ok (.putfield 42, 3) := by decide +kernel
theorem dX5_init_73 : decode cX5_init 73 = .ok (.aload_n 0, 1) := by decide +kernel
theorem dX5_init_74 : decode cX5_init 74 = .ok (.new 18, 3) := by decide +kernel
theorem dX5_init_77 : decode cX5_init 77 = .ok (.dup, 1) := by decide +kernel
theorem dX5_init_78 : decode cX5_init 78 = .ok (.invokespecial 20, 3) := by decide +kernel
theorem dX5_init_81 : decode cX5_init 81 = .ok (.putfield 45, 3) := by decide +kernel
theorem dX5_init_84 : decode cX5_init 84 = .ok (.aload_n 0, 1) := by decide +kernel
theorem dX5_init_85 : decode cX5_init 85 = .ok (.iconst 4, 1) := by decide +kernel
theorem dX5_init_86 : decode cX5_init 86 = .ok (.newarray .int, 2) := by decide +kernel
theorem dX5_init_88 : decode cX5_init 88 = .ok (.putfield 48, 3) := by decide +kernel
theorem dX5_init_91 : decode cX5_init 91 = .ok (.aload_n 0, 1) := by decide +kernel
theorem dX5_init_92 : decode cX5_init 92 = .ok (.bipush 100, 2) := by decide +kernel
theorem dX5_init_94 : decode cX5_init 94 = .ok (.newarray .boolean, 2) := by decide +kernel
theorem dX5_init_96 : decode cX5_init 96 = .ok (.putfield 52, 3) := by decide +kernel
theorem dX5_init_99 : decode cX5_init 99 = .ok (.iconst 0, 1) := by decide +kernel
theorem dX5_init_100 : decode cX5_init 100 = .ok (.istore_n 1, 1) := by decide +kernel
theorem dX5_init_101 : decode cX5_init 101 = .ok (.iload_n 1, 1) := by decide +kernel
theorem dX5_init_102 : decode cX5_init 102 = .ok (.iconst 4, 1) := by decide +kernel
theorem dX5_init_103 : decode cX5_init 103 = .ok (.if_icmp .ge 33, 3) := by decide +kernel
theorem dX5_init_106 : decode cX5_init 106 = .ok (.aload_n 0, 1) := by decide +kernel
theorem dX5_init_107 : decode cX5_init 107 = .ok (.getfield 45, 3) := by decide +kernel
theorem dX5_init_110 : decode cX5_init 110 = .ok (.new 56, 3) := by decide +kernel
theorem dX5_init_113 : decode cX5_init 113 = .ok (.dup, 1) := by decide +kernel
theorem dX5_init_114 : decode cX5_init 114 = .ok (.iload_n 1, 1) := by decide +kernel
theorem dX5_init_115 : decode cX5_init 115 = .ok (.ifCond .ne 7, 3) := by decide +kernel
theorem dX5_init_118 : decode cX5_init 118 = .ok (.iconst 1, 1) := by decide +kernel
theorem dX5_init_119 : decode cX5_init 119 = .ok (.goto 4, 3) := by decide +kernel
theorem dX5_init_122 : decode cX5_init 122 = .ok (.iconst 0, 1) := by decide +kernel
theorem dX5_init_123 : decode cX5_init 123 = .ok (.invokespecial 58, 3) := by decide +kernel
theorem dX5_init_126 : decode cX5_init 126 = .ok (.invokevirtual 61, 3) := by decide +kernel
theorem dX5_init_129 : decode cX5_init 129 = .ok (.pop, 1) := by decide +kernel
theorem dX5_init_130 : decode cX5_init 130 = .ok (.iinc 1 1, 3) := by decide +kernel
theorem dX5_init_133 : decode cX5_init 133 = .ok (.goto (-32), 3) := by decide +kernel
theorem dX5_init_136 : decode cX5_init 136 = .ok (.aload_n 0, 1) := by decide +kernel
theorem dX5_init_137 : decode cX5_init 137 = .ok (.getfield 48, 3) := by decide +kernel
theorem dX5_init_140 : decode cX5_init 140 = .ok (.bipush 100, 2) := by decide +kernel
theorem dX5_init_142 : decode cX5_init 142 = .ok (.invokestatic 65, 3) := by decide +kernel
theorem dX5_init_145 : decode cX5_init 145 = .ok (.return_, 1) := by decide +kernel
theorem dX5_pass_0 : decode cX5_pass 0 = .ok (.iload_n 1, 1) := by decide +kernel
theorem dX5_pass_1 : decode cX5_pass 1 = .ok (.iconst 1, 1) := by decide +kernel
theorem dX5_pass_2 : decode cX5_pass 2 = .ok (.sipush 1000, 3) := by decide +kernel
theorem dX5_pass_5 : decode cX5_pass 5 = .ok (.invokestatic 71, 3) := by decide +kernel
theorem dX5_pass_8 : decode cX5_pass 8 = .ok (.aload_n 0, 1) := by decide +kernel
theorem dX5_pass_9 : decode cX5_pass 9 = .ok (.getfield 74, 3) := by decide +kernel
theorem dX5_pass_12 : decode cX5_pass 12 = .ok (.iload_n 1, 1) := by decide +kernel
theorem dX5_pass_13 : decode cX5_pass 13 = .ok (.iadd, 1) := by decide +kernel
theorem dX5_pass_14 : decode cX5_pass 14 = .ok (.sipush 9999, 3) := by decide +kernel
theorem dX5_pass_17 : decode cX5_pass 17 = .ok (.if_icmp .le 13, 3) := by decide +kernel
theorem dX5_pass_20 : decode cX5_pass 20 = .ok (.new 78, 3) := by decide +kernel
theorem dX5_pass_23 : decode cX5_pass 23 = .ok (.dup, 1) := by decide +kernel
theorem dX5_pass_24 : decode cX5_pass 24 = .ok (.ldc 80, 2) := by decide +kernel
theorem dX5_pass_26 : decode cX5_pass 26 = .ok (.invokespecial 82, 3) := by decide +kernel
theorem dX5_pass_29 : decode cX5_pass 29 = .ok (.athrow, 1) := by decide +kernel
theorem dX5_pass_30 : decode cX5_pass 30 = .ok (.aload_n 0, 1) := by decide +kernel
theorem dX5_pass_31 : decode cX5_pass 31 = .ok (.dup, 1) := by decide +kernel
theorem dX5_pass_32 : decode cX5_pass 32 = .ok (.getfield 74, 3) := by decide +kernel
theorem dX5_pass_35 : decode cX5_pass 35 = .ok (.iload_n 1, 1) := by decide +kernel
theorem dX5_pass_36 : decode cX5_pass 36 = .ok (.iadd, 1) := by decide +kernel
theorem dX5_pass_37 : decode cX5_pass 37 = .ok (.putfield 74, 3) := by decide +kernel
theorem dX5_pass_40 : decode cX5_pass 40 = .ok (.aload_n 0, 1) := by decide +kernel
theorem dX5_pass_41 : decode cX5_pass 41 = .ok (.getfield 74, 3) := by decide +kernel
theorem dX5_pass_44 : decode cX5_pass 44 = .ok (.ireturn, 1) := by decide +kernel
theorem dX5_format_0 : decode cX5_format 0 = .ok (.iload_n 1, 1) := by decide +kernel
theorem dX5_format_1 : decode cX5_format 1 = .ok (.iconst 0, 1) := by decide +kernel
theorem dX5_format_2 : decode cX5_format 2 = .ok (.sipush 9999, 3) := by decide +kernel
theorem dX5_format_5 : decode cX5_format 5 = .ok (.invokestatic 71, 3) := by decide +kernel
theorem dX5_format_8 : decode cX5_format 8 = .ok (.iload_n 2, 1) := by decide +kernel
theorem dX5_format_9 : decode cX5_format 9 = .ok (.iconst 0, 1) := by decide +kernel
theorem dX5_format_10 : decode cX5_format 10 = .ok (.bipush 7, 2) := by decide +kernel
theorem dX5_format_12 : decode cX5_format 12 = .ok (.invokestatic 71, 3) := by decide +kernel
theorem dX5_format_15 : decode cX5_format 15 = .ok (.iload_n 3, 1) := by decide +kernel
theorem dX5_format_16 : decode cX5_format 16 = .ok (.iconst 0, 1) := by decide +kernel
theorem dX5_format_17 : decode cX5_format 17 = .ok (.bipush 7, 2) := by decide +kernel
theorem dX5_format_19 : decode cX5_format 19 = .ok (.invokestatic 71, 3) := by decide +kernel
theorem dX5_format_22 : decode cX5_format 22 = .ok (.aload_n 0, 1) := by decide +kernel
theorem dX5_format_23 : decode cX5_format 23 = .ok (.getfield 21, 3) := by decide +kernel
theorem dX5_format_26 : decode cX5_format 26 = .ok (.invokevirtual 85, 3) := by decide +kernel
theorem dX5_format_29 : decode cX5_format 29 = .ok (.bipush 10, 2) := by decide +kernel
theorem dX5_format_31 : decode cX5_format 31 = .ok (.if_icmp .lt 13, 3) := by decide +kernel
theorem dX5_format_34 : decode cX5_format 34 = .ok (.new 78, 3) := by decide +kernel
theorem dX5_format_37 : decode cX5_format 37 = .ok (.dup, 1) := by decide +kernel
theorem dX5_format_38 : decode cX5_format 38 = .ok (.ldc 89, 2) := by decide +kernel
theorem dX5_format_40 : decode cX5_format 40 = .ok (.invokespecial 82, 3) := by decide +kernel
theorem dX5_format_43 : decode cX5_format 43 = .ok (.athrow, 1) := by decide +kernel
theorem dX5_format_44 : decode cX5_format 44 = .ok (.aload_n 0, 1) := by decide +kernel
theorem dX5_format_45 : decode cX5_format 45 = .ok (.getfield 21, 3) := by decide +kernel
theorem dX5_format_48 : decode cX5_format 48 = .ok (.new 9, 3) := by decide +kernel
theorem dX5_format_51 : decode cX5_format 51 = .ok (.dup, 1) := by decide +kernel
theorem dX5_format_52 : decode cX5_format 52 = .ok (.iload_n 1, 1) := by decide +kernel
theorem dX5_format_53 : decode cX5_format 53 = .ok (.iload_n 2, 1) := by decide +kernel
theorem dX5_format_54 : decode cX5_format 54 = .ok (.iload_n 3, 1) := by decide +kernel
theorem dX5_format_55 : decode cX5_format 55 = .ok (.invokespecial 11, 3) := by decide +kernel
theorem dX5_format_58 : decode cX5_format 58 = .ok (.invokevirtual 61, 3) := by decide +kernel
theorem dX5_format_61 : decode cX5_format 61 = .ok (.pop, 1) := by decide +kernel
theorem dX5_format_62 : decode cX5_format 62 = .ok (.aload_n 0, 1) := by decide +kernel
theorem dX5_format_63 : decode cX5_format 63 = .ok (.getfield 21, 3) := by decide +kernel
theorem dX5_format_66 : decode cX5_format 66 = .ok (.invokevirtual 85, 3) := by decide +kernel
theorem dX5_format_69 : decode cX5_format 69 = .ok (.ireturn, 1) := by decide +kernel
theorem dX5_line_0 : decode cX5_line 0 = .ok (.iload_n 1, 1) := by decide +kernel
theorem dX5_line_1 : decode cX5_line 1 = .ok (.iconst 0, 1) := by decide +kernel
theorem dX5_line_2 : decode cX5_line 2 = .ok (.bipush 99, 2) := by decide +kernel
theorem dX5_line_4 : decode cX5_line 4 = .ok (.invokestatic 71, 3) := by decide +kernel
theorem dX5_line_7 : decode cX5_line 7 = .ok (.aload_n 0, 1) := by decide +kernel
theorem dX5_line_8 : decode cX5_line 8 = .ok (.getfield 38, 3) := by decide +kernel
theorem dX5_line_11 : decode cX5_line 11 = .ok (.iload_n 1, 1) := by decide +kernel
theorem dX5_line_12 : decode cX5_line 12 = .ok (.invokevirtual 91, 3) := by decide +kernel
theorem dX5_line_15 : decode cX5_line 15 = .ok (.ifCond .ne 13, 3) := by decide +kernel
theorem dX5_line_18 : decode cX5_line 18 = .ok (.new 78, 3) := by decide +kernel
theorem dX5_line_21 : decode cX5_line 21 = .ok (.dup, 1) := by decide +kernel
theorem dX5_line_22 : decode cX5_line 22 = .ok (.ldc 95, 2) := by decide +kernel
theorem dX5_line_24 : decode cX5_line 24 = .ok (.invokespecial 82, 3) := by decide +kernel
theorem dX5_line_27 : decode cX5_line 27 = .ok (.athrow, 1) := by decide +kernel
theorem dX5_line_28 : decode cX5_line 28 = .ok (.aload_n 0, 1) := by decide +kernel
theorem dX5_line_29 : decode cX5_line 29 = .ok (.getfield 38, 3) := by decide +kernel
theorem dX5_line_32 : decode cX5_line 32 = .ok (.getfield 97, 3) := by decide +kernel
theorem dX5_line_35 : decode cX5_line 35 = .ok (.ireturn, 1) := by decide +kernel
theorem dX5_feed_0 : decode cX5_feed 0 = .ok (.aload_n 0, 1) := by decide +kernel
theorem dX5_feed_1 : decode cX5_feed 1 = .ok (.getfield 100, 3) := by decide +kernel
theorem dX5_feed_4 : decode cX5_feed 4 = .ok (.aload_n 0, 1) := by decide +kernel
theorem dX5_feed_5 : decode cX5_feed 5 = .ok (.getfield 31, 3) := by decide +kernel
theorem dX5_feed_8 : decode cX5_feed 8 = .ok (.getfield 103, 3) := by decide +kernel
theorem dX5_feed_11 : decode cX5_feed 11 = .ok (.invokevirtual 85, 3) := by decide +kernel
theorem dX5_feed_14 : decode cX5_feed 14 = .ok (.iadd, 1) := by decide +kernel
theorem dX5_feed_15 : decode cX5_feed 15 = .ok (.iconst 1, 1) := by decide +kernel
theorem dX5_feed_16 : decode cX5_feed 16 = .ok (.iadd, 1) := by decide +kernel
theorem dX5_feed_17 : decode cX5_feed 17 = .ok (.bipush 120, 2) := by decide +kernel
theorem dX5_feed_19 : decode cX5_feed 19 = .ok (.if_icmp .le 13, 3) := by decide +kernel
theorem dX5_feed_22 : decode cX5_feed 22 = .ok (.new 78, 3) := by decide +kernel
theorem dX5_feed_25 : decode cX5_feed 25 = .ok (.dup, 1) := by decide +kernel
theorem dX5_feed_26 : decode cX5_feed 26 = .ok (.ldc 106, 2) := by decide +kernel
theorem dX5_feed_28 : decode cX5_feed 28 = .ok (.invokespecial 82, 3) := by decide +kernel
theorem dX5_feed_31 : decode cX5_feed 31 = .ok (.athrow, 1) := by decide +kernel
theorem dX5_feed_32 : decode cX5_feed 32 = .ok (.aload_n 0, 1) := by decide +kernel
theorem dX5_feed_33 : decode cX5_feed 33 = .ok (.invokevirtual 108, 3) := by decide +kernel
theorem dX5_feed_36 : decode cX5_feed 36 = .ok (.aload_n 0, 1) := by decide +kernel
theorem dX5_feed_37 : decode cX5_feed 37 = .ok (.getfield 31, 3) := by decide +kernel
theorem dX5_feed_40 : decode cX5_feed 40 = .ok (.getfield 103, 3) := by decide +kernel
theorem dX5_feed_43 : decode cX5_feed 43 = .ok (.invokevirtual 85, 3) := by decide +kernel
theorem dX5_feed_46 : decode cX5_feed 46 = .ok (.ireturn, 1) := by decide +kernel
theorem dX5_end_0 : decode cX5_end 0 = .ok (.aload_n 0, 1) := by decide +kernel
theorem dX5_end_1 : decode cX5_end 1 = .ok (.getfield 31, 3) := by decide +kernel
theorem dX5_end_4 : decode cX5_end 4 = .ok (.getfield 103, 3) := by decide +kernel
theorem dX5_end_7 : decode cX5_end 7 = .ok (.invokevirtual 85, 3) := by decide +kernel
theorem dX5_end_10 : decode cX5_end 10 = .ok (.aload_n 0, 1) := by decide +kernel
theorem dX5_end_11 : decode cX5_end 11 = .ok (.getfield 38, 3) := by decide +kernel
theorem dX5_end_14 : decode cX5_end 14 = .ok (.invokevirtual 111, 3) := by decide +kernel
theorem dX5_end_17 : decode cX5_end 17 = .ok (.ifCond .eq 7, 3) := by decide +kernel
theorem dX5_end_20 : decode cX5_end 20 = .ok (.iconst 0, 1) := by decide +kernel
theorem dX5_end_21 : decode cX5_end 21 = .ok (.goto 4, 3) := by decide +kernel
theorem dX5_end_24 : decode cX5_end 24 = .ok (.iconst 1, 1) := by decide +kernel
theorem dX5_end_25 : decode cX5_end 25 = .ok (.iadd, 1) := by decide +kernel
theorem dX5_end_26 : decode cX5_end 26 = .ok (.istore_n 1, 1) := by decide +kernel
theorem dX5_end_27 : decode cX5_end 27 = .ok (.iload_n 1, 1) := by decide +kernel
theorem dX5_end_28 : decode cX5_end 28 = .ok (.ifCond .ne 13, 3) := by decide +kernel
theorem dX5_end_31 : decode cX5_end 31 = .ok (.new 78, 3) := by decide +kernel
theorem dX5_end_34 : decode cX5_end 34 = .ok (.dup, 1) := by decide +kernel
theorem dX5_end_35 : decode cX5_end 35 = .ok (.ldc 115, 2) := by decide +kernel
theorem dX5_end_37 : decode cX5_end 37 = .ok (.invokespecial 82, 3) := by decide +kernel
theorem dX5_end_40 : decode cX5_end 40 = .ok (.athrow, 1) := by decide +kernel
theorem dX5_end_41 : decode cX5_end 41 = .ok (.aload_n 0, 1) := by decide +kernel
theorem dX5_end_42 : decode cX5_end 42 = .ok (.getfield 25, 3) := by decide +kernel
theorem dX5_end_45 : decode cX5_end 45 = .ok (.invokevirtual 85, 3) := by decide +kernel
theorem dX5_end_48 : decode cX5_end 48 = .ok (.bipush 15, 2) := by decide +kernel
theorem dX5_end_50 : decode cX5_end 50 = .ok (.if_icmp .lt 13, 3) := by decide +kernel
theorem dX5_end_53 : decode cX5_end 53 = .ok (.new 78, 3) := by decide +kernel
theorem dX5_end_56 : decode cX5_end 56 = .ok (.dup, 1) := by decide +kernel
theorem dX5_end_57 : decode cX5_end 57 = .ok (.ldc 117, 2) := by decide +kernel
theorem dX5_end_59 : decode cX5_end 59 = .ok (.invokespecial 82, 3) := by decide +kernel
theorem dX5_end_62 : decode cX5_end 62 = .ok (.athrow, 1) := by decide +kernel
theorem dX5_end_63 : decode cX5_end 63 = .ok (.aload_n 0, 1) := by decide +kernel
theorem dX5_end_64 : decode cX5_end 64 = .ok (.getfield 100, 3) := by decide +kernel
theorem dX5_end_67 : decode cX5_end 67 = .ok (.iload_n 1, 1) := by decide +kernel
theorem dX5_end_68 : decode cX5_end 68 = .ok (.iadd, 1) := by decide +kernel
theorem dX5_end_69 : decode cX5_end 69 = .ok (.bipush 120, 2) := by decide +kernel
theorem dX5_end_71 : decode cX5_end 71 = .ok (.if_icmp .le 13, 3) := by decide +kernel
theorem dX5_end_74 : decode cX5_end 74 = .ok (.new 78, 3) := by decide +kernel
theorem dX5_end_77 : decode cX5_end 77 = .ok (.dup, 1) := by decide +kernel
theorem dX5_end_78 : decode cX5_end 78 = .ok (.ldc 106, 2) := by decide +kernel
theorem dX5_end_80 : decode cX5_end 80 = .ok (.invokespecial 82, 3) := by decide +kernel
theorem dX5_end_83 : decode cX5_end 83 = .ok (.athrow, 1) := by decide +kernel
theorem dX5_end_84 : decode cX5_end 84 = .ok (.aload_n 0, 1) := by decide +kernel
theorem dX5_end_85 : decode cX5_end 85 = .ok (.getfield 38, 3) := by decide +kernel
theorem dX5_end_88 : decode cX5_end 88 = .ok (.invokevirtual 111, 3) := by decide +kernel
theorem dX5_end_91 : decode cX5_end 91 = .ok (.ifCond .ne 7, 3) := by decide +kernel
theorem dX5_end_94 : decode cX5_end 94 = .ok (.aload_n 0, 1) := by decide +kernel
theorem dX5_end_95 : decode cX5_end 95 = .ok (.invokevirtual 108, 3) := by decide +kernel
theorem dX5_end_98 : decode cX5_end 98 = .ok (.aload_n 0, 1) := by decide +kernel
theorem dX5_end_99 : decode cX5_end 99 = .ok (.invokevirtual 119, 3) := by decide +kernel
theorem dX5_end_102 : decode cX5_end 102 = .ok (.aload_n 0, 1) := by decide +kernel
theorem dX5_end_103 : decode cX5_end 103 = .ok (.getfield 25, 3) := by decide +kernel
theorem dX5_end_106 : decode cX5_end 106 = .ok (.invokevirtual 85, 3) := by decide +kernel
theorem dX5_end_109 : decode cX5_end 109 = .ok (.iconst 1, 1) := by decide +kernel
theorem dX5_end_110 : decode cX5_end 110 = .ok (.isub, 1) := by decide +kernel
theorem dX5_end_111 : decode cX5_end 111 = .ok (.ireturn, 1) := by decide +kernel
theorem dX5_pages_0 : decode cX5_pages 0 = .ok (.aload_n 0, 1) := by decide +kernel
theorem dX5_pages_1 : decode cX5_pages 1 = .ok (.iload_n 1, 1) := by decide +kernel
theorem dX5_pages_2 : decode cX5_pages 2 = .ok (.invokevirtual 122, 3) := by decide +kernel
theorem dX5_pages_5 : decode cX5_pages 5 = .ok (.getfield 103, 3) := by decide +kernel
theorem dX5_pages_8 : decode cX5_pages 8 = .ok (.invokevirtual 85, 3) := by decide +kernel
theorem dX5_pages_11 : decode cX5_pages 11 = .ok (.ireturn, 1) := by decide +kernel
theorem dX5_twice_0 : decode cX5_twice 0 = .ok (.aload_n 0, 1) := by decide +kernel
theorem dX5_twice_1 : decode cX5_twice 1 = .ok (.iload_n 1, 1) := by decide +kernel
theorem dX5_twice_2 : decode cX5_twice 2 = .ok (.invokevirtual 122, 3) := by decide +kernel
theorem dX5_twice_5 : decode cX5_twice 5 = .ok (.astore_n 2, 1) := by decide +kernel
theorem dX5_twice_6 : decode cX5_twice 6 = .ok (.iconst 0, 1) := by decide +kernel
theorem dX5_twice_7 : decode cX5_twice 7 = .ok (.istore_n 3, 1) := by decide +kernel
theorem dX5_twice_8 : decode cX5_twice 8 = .ok (.iload_n 3, 1) := by decide +kernel
theorem dX5_twice_9 : decode cX5_twice 9 = .ok (.iload_n 1, 1) := by decide +kernel
theorem dX5_twice_10 : decode cX5_twice 10 = .ok (.if_icmp .ge 40, 3) := by decide +kernel
theorem dX5_twice_13 : decode cX5_twice 13 = .ok (.iload_n 3, 1) := by decide +kernel
theorem dX5_twice_14 : decode cX5_twice 14 = .ok (.aload_n 0, 1) := by decide +kernel
theorem dX5_twice_15 : decode cX5_twice 15 = .ok (.getfield 25, 3) := by decide +kernel
theorem dX5_twice_18 : decode cX5_twice 18 = .ok (.invokevirtual 85, 3) := by decide +kernel
theorem dX5_twice_21 : decode cX5_twice 21 = .ok (.if_icmp .ge 29, 3) := by decide +kernel
theorem dX5_twice_24 : decode cX5_twice 24 = .ok (.aload_n 2, 1) := by decide +kernel
theorem dX5_twice_25 : decode cX5_twice 25 = .ok (.aload_n 0, 1) := by decide +kernel
theorem dX5_twice_26 : decode cX5_twice 26 = .ok (.getfield 25, 3) := by decide +kernel
theorem dX5_twice_29 : decode cX5_twice 29 = .ok (.iload_n 3, 1) := by decide +kernel
theorem dX5_twice_30 : decode cX5_twice 30 = .ok (.invokevirtual 126, 3) := by decide +kernel
theorem dX5_twice_33 : decode cX5_twice 33 = .ok (.checkcast 28, 3) := by decide +kernel
theorem dX5_twice_36 : decode cX5_twice 36 = .ok (.invokevirtual 130, 3) := by decide +kernel
theorem dX5_twice_39 : decode cX5_twice 39 = .ok (.ifCond .eq 5, 3) := by decide +kernel
theorem dX5_twice_42 : decode cX5_twice 42 = .ok (.iload_n 3, 1) := by decide +kernel
theorem dX5_twice_43 : decode cX5_twice 43 = .ok (.ireturn, 1) := by decide +kernel
theorem dX5_twice_44 : decode cX5_twice 44 = .ok (.iinc 3 1, 3) := by decide +kernel
theorem dX5_twice_47 : decode cX5_twice 47 = .ok (.goto (-39), 3) := by decide +kernel
theorem dX5_twice_50 : decode cX5_twice 50 = .ok (.iconst (-1), 1) := by decide +kernel
theorem dX5_twice_51 : decode cX5_twice 51 = .ok (.ireturn, 1) := by decide +kernel
theorem dX5_reprint_0 : decode cX5_reprint 0 = .ok (.aload_n 0, 1) := by decide +kernel
theorem dX5_reprint_1 : decode cX5_reprint 1 = .ok (.iload_n 1, 1) := by decide +kernel
theorem dX5_reprint_2 : decode cX5_reprint 2 = .ok (.invokevirtual 122, 3) := by decide +kernel
theorem dX5_reprint_5 : decode cX5_reprint 5 = .ok (.astore 4, 2) := by decide +kernel
theorem dX5_reprint_7 : decode cX5_reprint 7 = .ok (.aload 4, 2) := by decide +kernel
theorem dX5_reprint_9 : decode cX5_reprint 9 = .ok (.iload_n 2, 1) := by decide +kernel
theorem dX5_reprint_10 : decode cX5_reprint 10 = .ok (.invokestatic 134, 3) := by decide +kernel
theorem dX5_reprint_13 : decode cX5_reprint 13 = .ok (.iload_n 3, 1) := by decide +kernel
theorem dX5_reprint_14 : decode cX5_reprint 14 = .ok (.iconst 1, 1) := by decide +kernel
theorem dX5_reprint_15 : decode cX5_reprint 15 = .ok (.bipush 9, 2) := by decide +kernel
theorem dX5_reprint_17 : decode cX5_reprint 17 = .ok (.invokestatic 71, 3) := by decide +kernel
theorem dX5_reprint_20 : decode cX5_reprint 20 = .ok (.iconst 0, 1) := by decide +kernel
theorem dX5_reprint_21 : decode cX5_reprint 21 = .ok (.istore 5, 2) := by decide +kernel
theorem dX5_reprint_23 : decode cX5_reprint 23 = .ok (.iload_n 2, 1) := by decide +kernel
theorem dX5_reprint_24 : decode cX5_reprint 24 = .ok (.istore 6, 2) := by decide +kernel
theorem dX5_reprint_26 : decode cX5_reprint 26 = .ok (.iload 6, 2) := by decide +kernel
theorem dX5_reprint_28 : decode cX5_reprint 28 = .ok (.aload 4, 2) := by decide +kernel
theorem dX5_reprint_30 : decode cX5_reprint 30 = .ok (.getfield 103, 3) := by decide +kernel
theorem dX5_reprint_33 : decode cX5_reprint 33 = .ok (.invokevirtual 85, 3) := by decide +kernel
theorem dX5_reprint_36 : decode cX5_reprint 36 = .ok (.if_icmp .ge 37, 3) := by decide +kernel
theorem dX5_reprint_39 : decode cX5_reprint 39 = .ok (.aload 4, 2) := by decide +kernel
theorem dX5_reprint_41 : decode cX5_reprint 41 = .ok (.getfield 103, 3) := by decide +kernel
theorem dX5_reprint_44 : decode cX5_reprint 44 = .ok (.iload 6, 2) := by decide +kernel
theorem dX5_reprint_46 : decode cX5_reprint 46 = .ok (.invokevirtual 126, 3) := by decide +kernel
theorem dX5_reprint_49 : decode cX5_reprint 49 = .ok (.checkcast 35, 3) := by decide +kernel
theorem dX5_reprint_52 : decode cX5_reprint 52 = .ok (.dup, 1) := by decide +kernel
theorem dX5_reprint_53 : decode cX5_reprint 53 = .ok (.getfield 138, 3) := by decide +kernel
theorem dX5_reprint_56 : decode cX5_reprint 56 = .ok (.iload_n 3, 1) := by decide +kernel
theorem dX5_reprint_57 : decode cX5_reprint 57 = .ok (.iadd, 1) := by decide +kernel
theorem dX5_reprint_58 : decode cX5_reprint 58 = .ok (.putfield 138, 3) := by decide +kernel
theorem dX5_reprint_61 : decode cX5_reprint 61 = .ok (.iload 5, 2) := by decide +kernel
theorem dX5_reprint_63 : decode cX5_reprint 63 = .ok (.iload_n 3, 1) := by decide +kernel
theorem dX5_reprint_64 : decode cX5_reprint 64 = .ok (.iadd, 1) := by decide +kernel
theorem dX5_reprint_65 : decode cX5_reprint 65 = .ok (.istore 5, 2) := by decide +kernel
theorem dX5_reprint_67 : decode cX5_reprint 67 = .ok (.iinc 6 1, 3) := by decide +kernel
theorem dX5_reprint_70 : decode cX5_reprint 70 = .ok (.goto (-44), 3) := by decide +kernel
theorem dX5_reprint_73 : decode cX5_reprint 73 = .ok (.iload 5, 2) := by decide +kernel
theorem dX5_reprint_75 : decode cX5_reprint 75 = .ok (.ireturn, 1) := by decide +kernel
theorem dX5_copies_0 : decode cX5_copies 0 = .ok (.aload_n 0, 1) := by decide +kernel
theorem dX5_copies_1 : decode cX5_copies 1 = .ok (.iload_n 1, 1) := by decide +kernel
theorem dX5_copies_2 : decode cX5_copies 2 = .ok (.invokevirtual 122, 3) := by decide +kernel
theorem dX5_copies_5 : decode cX5_copies 5 = .ok (.iload_n 2, 1) := by decide +kernel
theorem dX5_copies_6 : decode cX5_copies 6 = .ok (.invokestatic 141, 3) := by decide +kernel
theorem dX5_copies_9 : decode cX5_copies 9 = .ok (.getfield 138, 3) := by decide +kernel
theorem dX5_copies_12 : decode cX5_copies 12 = .ok (.ireturn, 1) := by decide +kernel
theorem dX5_documents_0 : decode cX5_documents 0 = .ok (.aload_n 0, 1) := by decide +kernel
theorem dX5_documents_1 : decode cX5_documents 1 = .ok (.getfield 42, 3) := by decide +kernel
theorem dX5_documents_4 : decode cX5_documents 4 = .ok (.invokevirtual 85, 3) := by decide +kernel
theorem dX5_documents_7 : decode cX5_documents 7 = .ok (.ireturn, 1) := by decide +kernel
theorem dX5_isThere_0 : decode cX5_isThere 0 = .ok (.aload_n 0, 1) := by decide +kernel
theorem dX5_isThere_1 : decode cX5_isThere 1 = .ok (.iload_n 1, 1) := by decide +kernel
theorem dX5_isThere_2 : decode cX5_isThere 2 = .ok (.invokevirtual 145, 3) := by decide +kernel
theorem dX5_isThere_5 : decode cX5_isThere 5 = .ok (.getfield 149, 3) := by decide +kernel
theorem dX5_isThere_8 : decode cX5_isThere 8 = .ok (.ifCond .ne 7, 3) := by decide +kernel
theorem dX5_isThere_11 : decode cX5_isThere 11 = .ok (.iconst 1, 1) := by decide +kernel
theorem dX5_isThere_12 : decode cX5_isThere 12 = .ok (.goto 4, 3) := by decide +kernel
theorem dX5_isThere_15 : decode cX5_isThere 15 = .ok (.iconst 0, 1) := by decide +kernel
theorem dX5_isThere_16 : decode cX5_isThere 16 = .ok (.ireturn, 1) := by decide +kernel
theorem dX5_account_0 : decode cX5_account 0 = .ok (.aload_n 0, 1) := by decide +kernel
theorem dX5_account_1 : decode cX5_account 1 = .ok (.iload_n 1, 1) := by decide +kernel
theorem dX5_account_2 : decode cX5_account 2 = .ok (.invokevirtual 145, 3) := by decide +kernel
theorem dX5_account_5 : decode cX5_account 5 = .ok (.getfield 155, 3) := by decide +kernel
theorem dX5_account_8 : decode cX5_account 8 = .ok (.ireturn, 1) := by decide +kernel
theorem dX5_kind_0 : decode cX5_kind 0 = .ok (.aload_n 0, 1) := by decide +kernel
theorem dX5_kind_1 : decode cX5_kind 1 = .ok (.iload_n 1, 1) := by decide +kernel
theorem dX5_kind_2 : decode cX5_kind 2 = .ok (.invokevirtual 145, 3) := by decide +kernel
theorem dX5_kind_5 : decode cX5_kind 5 = .ok (.getfield 158, 3) := by decide +kernel
theorem dX5_kind_8 : decode cX5_kind 8 = .ok (.ireturn, 1) := by decide +kernel
theorem dX5_length_0 : decode cX5_length 0 = .ok (.aload_n 0, 1) := by decide +kernel
theorem dX5_length_1 : decode cX5_length 1 = .ok (.iload_n 1, 1) := by decide +kernel
theorem dX5_length_2 : decode cX5_length 2 = .ok (.invokevirtual 145, 3) := by decide +kernel
theorem dX5_length_5 : decode cX5_length 5 = .ok (.getfield 161, 3) := by decide +kernel
theorem dX5_length_8 : decode cX5_length 8 = .ok (.ireturn, 1) := by decide +kernel
theorem dX5_found_0 : decode cX5_found 0 = .ok (.aload_n 0, 1) := by decide +kernel
theorem dX5_found_1 : decode cX5_found 1 = .ok (.iload_n 1, 1) := by decide +kernel
theorem dX5_found_2 : decode cX5_found 2 = .ok (.invokevirtual 164, 3) := by decide +kernel
theorem dX5_found_5 : decode cX5_found 5 = .ok (.astore 6, 2) := by decide +kernel
theorem dX5_found_7 : decode cX5_found 7 = .ok (.iload_n 2, 1) := by decide +kernel
theorem dX5_found_8 : decode cX5_found 8 = .ok (.iconst (-1), 1) := by decide +kernel
theorem dX5_found_9 : decode cX5_found 9 = .ok (.bipush 99, 2) := by decide +kernel
theorem dX5_found_11 : decode cX5_found 11 = .ok (.invokestatic 71, 3) := by decide +kernel
theorem dX5_found_14 : decode cX5_found 14 = .ok (.iload_n 3, 1) := by decide +kernel
theorem dX5_found_15 : decode cX5_found 15 = .ok (.iconst (-1), 1) := by decide +kernel
theorem dX5_found_16 : decode cX5_found 16 = .ok (.iconst 3, 1) := by decide +kernel
theorem dX5_found_17 : decode cX5_found 17 = .ok (.invokestatic 71, 3) := by decide +kernel
theorem dX5_found_20 : decode cX5_found 20 = .ok (.iload 4, 2) := by decide +kernel
theorem dX5_found_22 : decode cX5_found 22 = .ok (.iconst 0, 1) := by decide +kernel
theorem dX5_found_23 : decode cX5_found 23 = .ok (.sipush 9999, 3) := by decide +kernel
theorem dX5_found_26 : decode cX5_found 26 = .ok (.invokestatic 71, 3) := by decide +kernel
theorem dX5_found_29 : decode cX5_found 29 = .ok (.iconst 0, 1) := by decide +kernel
theorem dX5_found_30 : decode cX5_found 30 = .ok (.istore 7, 2) := by decide +kernel
theorem dX5_found_32 : decode cX5_found 32 = .ok (.iconst 0, 1) := by decide +kernel
theorem dX5_found_33 : decode cX5_found 33 = .ok (.istore 8, 2) := by decide +kernel
theorem dX5_found_35 : decode cX5_found 35 = .ok (.iload 8, 2) := by decide +kernel
theorem dX5_found_37 : decode cX5_found 37 = .ok (.aload_n 0, 1) := by decide +kernel
theorem dX5_found_38 : decode cX5_found 38 = .ok (.getfield 42, 3) := by decide +kernel
theorem dX5_found_41 : decode cX5_found 41 = .ok (.invokevirtual 85, 3) := by decide +kernel
theorem dX5_found_44 : decode cX5_found 44 = .ok (.if_icmp .ge 58, 3) := by decide +kernel
theorem dX5_found_47 : decode cX5_found 47 = .ok (.aload_n 0, 1) := by decide +kernel
theorem dX5_found_48 : decode cX5_found 48 = .ok (.getfield 42, 3) := by decide +kernel
theorem dX5_found_51 : decode cX5_found 51 = .ok (.iload 8, 2) := by decide +kernel
theorem dX5_found_53 : decode cX5_found 53 = .ok (.invokevirtual 126, 3) := by decide +kernel
theorem dX5_found_56 : decode cX5_found 56 = .ok (.checkcast 150, 3) := by decide +kernel
theorem dX5_found_59 : decode cX5_found 59 = .ok (.astore 9, 2) := by decide +kernel
theorem dX5_found_61 : decode cX5_found 61 = .ok (.aload 6, 2) := by decide +kernel
theorem dX5_found_63 : decode cX5_found 63 = .ok (.aload 9, 2) := by decide +kernel
theorem dX5_found_65 : decode cX5_found 65 = .ok (.invokevirtual 168, 3) := by decide +kernel
theorem dX5_found_68 : decode cX5_found 68 = .ok (.ifCond .eq 28, 3) := by decide +kernel
theorem dX5_found_71 : decode cX5_found 71 = .ok (.aload 9, 2) := by decide +kernel
theorem dX5_found_73 : decode cX5_found 73 = .ok (.iload_n 2, 1) := by decide +kernel
theorem dX5_found_74 : decode cX5_found 74 = .ok (.iload_n 3, 1) := by decide +kernel
theorem dX5_found_75 : decode cX5_found 75 = .ok (.iload 4, 2) := by decide +kernel
theorem dX5_found_77 : decode cX5_found 77 = .ok (.invokevirtual 172, 3) := by decide +kernel
theorem dX5_found_80 : decode cX5_found 80 = .ok (.ifCond .eq 16, 3) := by decide +kernel
theorem dX5_found_83 : decode cX5_found 83 = .ok (.iload 7, 2) := by decide +kernel
theorem dX5_found_85 : decode cX5_found 85 = .ok (.iload 5, 2) := by decide +kernel
theorem dX5_found_87 : decode cX5_found 87 = .ok (.if_icmp .ne 6, 3) := by decide +kernel
theorem dX5_found_90 : decode cX5_found 90 = .ok (.iload 8, 2) := by decide +kernel
theorem dX5_found_92 : decode cX5_found 92 = .ok (.ireturn, 1) := by decide +kernel
theorem dX5_found_93 : decode cX5_found 93 = .ok (.iinc 7 1, 3) := by decide +kernel
theorem dX5_found_96 : decode cX5_found 96 = .ok (.iinc 8 1, 3) := by decide +kernel
theorem dX5_found_99 : decode cX5_found 99 = .ok (.goto (-64), 3) := by decide +kernel
theorem dX5_found_102 : decode cX5_found 102 = .ok (.new 176, 3) := by decide +kernel
theorem dX5_found_105 : decode cX5_found 105 = .ok (.dup, 1) := by decide +kernel
theorem dX5_found_106 : decode cX5_found 106 = .ok (.ldc 178, 2) := by decide +kernel
theorem dX5_found_108 : decode cX5_found 108 = .ok (.invokespecial 180, 3) := by decide +kernel
theorem dX5_found_111 : decode cX5_found 111 = .ok (.athrow, 1) := by decide +kernel
theorem dX5_read_0 : decode cX5_read 0 = .ok (.aload_n 0, 1) := by decide +kernel
theorem dX5_read_1 : decode cX5_read 1 = .ok (.iload_n 1, 1) := by decide +kernel
theorem dX5_read_2 : decode cX5_read 2 = .ok (.invokevirtual 164, 3) := by decide +kernel
theorem dX5_read_5 : decode cX5_read 5 = .ok (.astore 5, 2) := by decide +kernel
theorem dX5_read_7 : decode cX5_read 7 = .ok (.aload_n 0, 1) := by decide +kernel
theorem dX5_read_8 : decode cX5_read 8 = .ok (.iload_n 2, 1) := by decide +kernel
theorem dX5_read_9 : decode cX5_read 9 = .ok (.invokevirtual 145, 3) := by decide +kernel
theorem dX5_read_12 : decode cX5_read 12 = .ok (.astore 6, 2) := by decide +kernel
theorem dX5_read_14 : decode cX5_read 14 = .ok (.aload 6, 2) := by decide +kernel
theorem dX5_read_16 : decode cX5_read 16 = .ok (.iload_n 3, 1) := by decide +kernel
theorem dX5_read_17 : decode cX5_read 17 = .ok (.invokestatic 181, 3) := by decide +kernel
theorem dX5_read_20 : decode cX5_read 20 = .ok (.astore 7, 2) := by decide +kernel
theorem dX5_read_22 : decode cX5_read 22 = .ok (.aload 7, 2) := by decide +kernel
theorem dX5_read_24 : decode cX5_read 24 = .ok (.iload 4, 2) := by decide +kernel
theorem dX5_read_26 : decode cX5_read 26 = .ok (.invokevirtual 185, 3) := by decide +kernel
theorem dX5_read_29 : decode cX5_read 29 = .ok (.ifCond .ne 13, 3) := by decide +kernel
theorem dX5_read_32 : decode cX5_read 32 = .ok (.new 176, 3) := by decide +kernel
theorem dX5_read_35 : decode cX5_read 35 = .ok (.dup, 1) := by decide +kernel
theorem dX5_read_36 : decode cX5_read 36 = .ok (.ldc 188, 2) := by decide +kernel
theorem dX5_read_38 : decode cX5_read 38 = .ok (.invokespecial 180, 3) := by decide +kernel
theorem dX5_read_41 : decode cX5_read 41 = .ok (.athrow, 1) := by decide +kernel
theorem dX5_read_42 : decode cX5_read 42 = .ok (.aload 5, 2) := by decide +kernel
theorem dX5_read_44 : decode cX5_read 44 = .ok (.aload 6, 2) := by decide +kernel
theorem dX5_read_46 : decode cX5_read 46 = .ok (.invokevirtual 168, 3) := by decide +kernel
theorem dX5_read_49 : decode cX5_read 49 = .ok (.ifCond .ne 13, 3) := by decide +kernel
theorem dX5_read_52 : decode cX5_read 52 = .ok (.new 190, 3) := by decide +kernel
theorem dX5_read_55 : decode cX5_read 55 = .ok (.dup, 1) := by decide +kernel
theorem dX5_read_56 : decode cX5_read 56 = .ok (.ldc 192, 2) := by decide +kernel
theorem dX5_read_58 : decode cX5_read 58 = .ok (.invokespecial 194, 3) := by decide +kernel
theorem dX5_read_61 : decode cX5_read 61 = .ok (.athrow, 1) := by decide +kernel
theorem dX5_read_62 : decode cX5_read 62 = .ok (.iload 4, 2) := by decide +kernel
theorem dX5_read_64 : decode cX5_read 64 = .ok (.aload 5, 2) := by decide +kernel
theorem dX5_read_66 : decode cX5_read 66 = .ok (.getfield 195, 3) := by decide +kernel
theorem dX5_read_69 : decode cX5_read 69 = .ok (.if_icmp .ne 7, 3) := by decide +kernel
theorem dX5_read_72 : decode cX5_read 72 = .ok (.iconst (-1), 1) := by decide +kernel
theorem dX5_read_73 : decode cX5_read 73 = .ok (.goto 10, 3) := by decide +kernel
theorem dX5_read_76 : decode cX5_read 76 = .ok (.aload 7, 2) := by decide +kernel
theorem dX5_read_78 : decode cX5_read 78 = .ok (.iload 4, 2) := by decide +kernel
theorem dX5_read_80 : decode cX5_read 80 = .ok (.invokevirtual 198, 3) := by decide +kernel
theorem dX5_read_83 : decode cX5_read 83 = .ok (.ireturn, 1) := by decide +kernel
theorem dX5_view_0 : decode cX5_view 0 = .ok (.aload_n 0, 1) := by decide +kernel
theorem dX5_view_1 : decode cX5_view 1 = .ok (.iload_n 1, 1) := by decide +kernel
theorem dX5_view_2 : decode cX5_view 2 = .ok (.invokevirtual 164, 3) := by decide +kernel
theorem dX5_view_5 : decode cX5_view 5 = .ok (.astore 5, 2) := by decide +kernel
theorem dX5_view_7 : decode cX5_view 7 = .ok (.iload_n 2, 1) := by decide +kernel
theorem dX5_view_8 : decode cX5_view 8 = .ok (.iconst 0, 1) := by decide +kernel
theorem dX5_view_9 : decode cX5_view 9 = .ok (.bipush 99, 2) := by decide +kernel
theorem dX5_view_11 : decode cX5_view 11 = .ok (.invokestatic 71, 3) := by decide +kernel
theorem dX5_view_14 : decode cX5_view 14 = .ok (.iload_n 3, 1) := by decide +kernel
theorem dX5_view_15 : decode cX5_view 15 = .ok (.iload_n 2, 1) := by decide +kernel
theorem dX5_view_16 : decode cX5_view 16 = .ok (.bipush 99, 2) := by decide +kernel
theorem dX5_view_18 : decode cX5_view 18 = .ok (.invokestatic 71, 3) := by decide +kernel
theorem dX5_view_21 : decode cX5_view 21 = .ok (.iload 4, 2) := by decide +kernel
theorem dX5_view_23 : decode cX5_view 23 = .ok (.iconst (-1), 1) := by decide +kernel
theorem dX5_view_24 : decode cX5_view 24 = .ok (.bipush 7, 2) := by decide +kernel
theorem dX5_view_26 : decode cX5_view 26 = .ok (.invokestatic 71, 3) := by decide +kernel
theorem dX5_view_29 : decode cX5_view 29 = .ok (.aload 5, 2) := by decide +kernel
theorem dX5_view_31 : decode cX5_view 31 = .ok (.iload_n 2, 1) := by decide +kernel
theorem dX5_view_32 : decode cX5_view 32 = .ok (.putfield 202, 3) := by decide +kernel
theorem dX5_view_35 : decode cX5_view 35 = .ok (.aload 5, 2) := by decide +kernel
theorem dX5_view_37 : decode cX5_view 37 = .ok (.iload_n 3, 1) := by decide +kernel
theorem dX5_view_38 : decode cX5_view 38 = .ok (.putfield 205, 3) := by decide +kernel
theorem dX5_view_41 : decode cX5_view 41 = .ok (.aload 5, 2) := by decide +kernel
theorem dX5_view_43 : decode cX5_view 43 = .ok (.iload 4, 2) := by decide +kernel
theorem dX5_view_45 : decode cX5_view 45 = .ok (.putfield 195, 3) := by decide +kernel
theorem dX5_view_48 : decode cX5_view 48 = .ok (.return_, 1) := by decide +kernel
theorem dX5_span_0 : decode cX5_span 0 = .ok (.aload_n 0, 1) := by decide +kernel
theorem dX5_span_1 : decode cX5_span 1 = .ok (.iload_n 1, 1) := by decide +kernel
theorem dX5_span_2 : decode cX5_span 2 = .ok (.invokevirtual 208, 3) := by decide +kernel
theorem dX5_span_5 : decode cX5_span 5 = .ok (.ifCond .ne 13, 3) := by decide +kernel
theorem dX5_span_8 : decode cX5_span 8 = .ok (.new 211, 3) := by decide +kernel
theorem dX5_span_11 : decode cX5_span 11 = .ok (.dup, 1) := by decide +kernel
theorem dX5_span_12 : decode cX5_span 12 = .ok (.ldc 213, 2) := by decide +kernel
theorem dX5_span_14 : decode cX5_span 14 = .ok (.invokespecial 215, 3) := by decide +kernel
theorem dX5_span_17 : decode cX5_span 17 = .ok (.athrow, 1) := by decide +kernel
theorem dX5_span_18 : decode cX5_span 18 = .ok (.iload_n 2, 1) := by decide +kernel
theorem dX5_span_19 : decode cX5_span 19 = .ok (.iconst 0, 1) := by decide +kernel
theorem dX5_span_20 : decode cX5_span 20 = .ok (.sipush 9999, 3) := by decide +kernel
theorem dX5_span_23 : decode cX5_span 23 = .ok (.invokestatic 71, 3) := by decide +kernel
theorem dX5_span_26 : decode cX5_span 26 = .ok (.aload_n 0, 1) := by decide +kernel
theorem dX5_span_27 : decode cX5_span 27 = .ok (.getfield 48, 3) := by decide +kernel
theorem dX5_span_30 : decode cX5_span 30 = .ok (.iload_n 1, 1) := by decide +kernel
theorem dX5_span_31 : decode cX5_span 31 = .ok (.iaload, 1) := by decide +kernel
theorem dX5_span_32 : decode cX5_span 32 = .ok (.istore_n 3, 1) := by decide +kernel
theorem dX5_span_33 : decode cX5_span 33 = .ok (.aload_n 0, 1) := by decide +kernel
theorem dX5_span_34 : decode cX5_span 34 = .ok (.getfield 48, 3) := by decide +kernel
theorem dX5_span_37 : decode cX5_span 37 = .ok (.iload_n 1, 1) := by decide +kernel
theorem dX5_span_38 : decode cX5_span 38 = .ok (.iload_n 2, 1) := by decide +kernel
theorem dX5_span_39 : decode cX5_span 39 = .ok (.iastore, 1) := by decide +kernel
theorem dX5_span_40 : decode cX5_span 40 = .ok (.iload_n 3, 1) := by decide +kernel
theorem dX5_span_41 : decode cX5_span 41 = .ok (.ireturn, 1) := by decide +kernel
theorem dX5_hold_0 : decode cX5_hold 0 = .ok (.aload_n 0, 1) := by decide +kernel
theorem dX5_hold_1 : decode cX5_hold 1 = .ok (.iload_n 1, 1) := by decide +kernel
theorem dX5_hold_2 : decode cX5_hold 2 = .ok (.invokevirtual 216, 3) := by decide +kernel
theorem dX5_hold_5 : decode cX5_hold 5 = .ok (.ifCond .ne 13, 3) := by decide +kernel
theorem dX5_hold_8 : decode cX5_hold 8 = .ok (.new 211, 3) := by decide +kernel
theorem dX5_hold_11 : decode cX5_hold 11 = .ok (.dup, 1) := by decide +kernel
theorem dX5_hold_12 : decode cX5_hold 12 = .ok (.ldc 219, 2) := by decide +kernel
theorem dX5_hold_14 : decode cX5_hold 14 = .ok (.invokespecial 215, 3) := by decide +kernel
theorem dX5_hold_17 : decode cX5_hold 17 = .ok (.athrow, 1) := by decide +kernel
theorem dX5_hold_18 : decode cX5_hold 18 = .ok (.aload_n 0, 1) := by decide +kernel
theorem dX5_hold_19 : decode cX5_hold 19 = .ok (.getfield 52, 3) := by decide +kernel
theorem dX5_hold_22 : decode cX5_hold 22 = .ok (.iload_n 1, 1) := by decide +kernel
theorem dX5_hold_23 : decode cX5_hold 23 = .ok (.baload, 1) := by decide +kernel
theorem dX5_hold_24 : decode cX5_hold 24 = .ok (.istore_n 3, 1) := by decide +kernel
theorem dX5_hold_25 : decode cX5_hold 25 = .ok (.aload_n 0, 1) := by decide +kernel
theorem dX5_hold_26 : decode cX5_hold 26 = .ok (.getfield 52, 3) := by decide +kernel
theorem dX5_hold_29 : decode cX5_hold 29 = .ok (.iload_n 1, 1) := by decide +kernel
theorem dX5_hold_30 : decode cX5_hold 30 = .ok (.iload_n 2, 1) := by decide +kernel
theorem dX5_hold_31 : decode cX5_hold 31 = .ok (.bastore, 1) := by decide +kernel
theorem dX5_hold_32 : decode cX5_hold 32 = .ok (.iload_n 3, 1) := by decide +kernel
theorem dX5_hold_33 : decode cX5_hold 33 = .ok (.ireturn, 1) := by decide +kernel
theorem dX5_clear_0 : decode cX5_clear 0 = .ok (.iconst 0, 1) := by decide +kernel
theorem dX5_clear_1 : decode cX5_clear 1 = .ok (.istore_n 1, 1) := by decide +kernel
theorem dX5_clear_2 : decode cX5_clear 2 = .ok (.iconst 0, 1) := by decide +kernel
theorem dX5_clear_3 : decode cX5_clear 3 = .ok (.istore_n 2, 1) := by decide +kernel
theorem dX5_clear_4 : decode cX5_clear 4 = .ok (.iload_n 2, 1) := by decide +kernel
theorem dX5_clear_5 : decode cX5_clear 5 = .ok (.aload_n 0, 1) := by decide +kernel
theorem dX5_clear_6 : decode cX5_clear 6 = .ok (.getfield 42, 3) := by decide +kernel
theorem dX5_clear_9 : decode cX5_clear 9 = .ok (.invokevirtual 85, 3) := by decide +kernel
theorem dX5_clear_12 : decode cX5_clear 12 = .ok (.if_icmp .ge 52, 3) := by decide +kernel
theorem dX5_clear_15 : decode cX5_clear 15 = .ok (.aload_n 0, 1) := by decide +kernel
theorem dX5_clear_16 : decode cX5_clear 16 = .ok (.getfield 42, 3) := by decide +kernel
theorem dX5_clear_19 : decode cX5_clear 19 = .ok (.iload_n 2, 1) := by decide +kernel
theorem dX5_clear_20 : decode cX5_clear 20 = .ok (.invokevirtual 126, 3) := by decide +kernel
theorem dX5_clear_23 : decode cX5_clear 23 = .ok (.checkcast 150, 3) := by decide +kernel
theorem dX5_clear_26 : decode cX5_clear 26 = .ok (.astore_n 3, 1) := by decide +kernel
theorem dX5_clear_27 : decode cX5_clear 27 = .ok (.aload_n 3, 1) := by decide +kernel
theorem dX5_clear_28 : decode cX5_clear 28 = .ok (.getfield 149, 3) := by decide +kernel
theorem dX5_clear_31 : decode cX5_clear 31 = .ok (.ifCond .ne 27, 3) := by decide +kernel
theorem dX5_clear_34 : decode cX5_clear 34 = .ok (.aload_n 0, 1) := by decide +kernel
theorem dX5_clear_35 : decode cX5_clear 35 = .ok (.aload_n 3, 1) := by decide +kernel
theorem dX5_clear_36 : decode cX5_clear 36 = .ok (.invokevirtual 221, 3) := by decide +kernel
theorem dX5_clear_39 : decode cX5_clear 39 = .ok (.ifCond .eq 19, 3) := by decide +kernel
theorem dX5_clear_42 : decode cX5_clear 42 = .ok (.aload_n 0, 1) := by decide +kernel
theorem dX5_clear_43 : decode cX5_clear 43 = .ok (.aload_n 3, 1) := by decide +kernel
theorem dX5_clear_44 : decode cX5_clear 44 = .ok (.invokevirtual 224, 3) := by decide +kernel
theorem dX5_clear_47 : decode cX5_clear 47 = .ok (.ifCond .ne 11, 3) := by decide +kernel
theorem dX5_clear_50 : decode cX5_clear 50 = .ok (.aload_n 3, 1) := by decide +kernel
theorem dX5_clear_51 : decode cX5_clear 51 = .ok (.iconst 1, 1) := by decide +kernel
theorem dX5_clear_52 : decode cX5_clear 52 = .ok (.putfield 149, 3) := by decide +kernel
theorem dX5_clear_55 : decode cX5_clear 55 = .ok (.iinc 1 1, 3) := by decide +kernel
theorem dX5_clear_58 : decode cX5_clear 58 = .ok (.iinc 2 1, 3) := by decide +kernel
theorem dX5_clear_61 : decode cX5_clear 61 = .ok (.goto (-57), 3) := by decide +kernel
theorem dX5_clear_64 : decode cX5_clear 64 = .ok (.iload_n 1, 1) := by decide +kernel
theorem dX5_clear_65 : decode cX5_clear 65 = .ok (.ireturn, 1) := by decide +kernel
theorem dX5_bundle_0 : decode cX5_bundle 0 = .ok (.aload_n 0, 1) := by decide +kernel
theorem dX5_bundle_1 : decode cX5_bundle 1 = .ok (.iload_n 1, 1) := by decide +kernel
theorem dX5_bundle_2 : decode cX5_bundle 2 = .ok (.invokevirtual 164, 3) := by decide +kernel
theorem dX5_bundle_5 : decode cX5_bundle 5 = .ok (.astore_n 3, 1) := by decide +kernel
theorem dX5_bundle_6 : decode cX5_bundle 6 = .ok (.iload_n 2, 1) := by decide +kernel
theorem dX5_bundle_7 : decode cX5_bundle 7 = .ok (.iconst 0, 1) := by decide +kernel
theorem dX5_bundle_8 : decode cX5_bundle 8 = .ok (.bipush 99, 2) := by decide +kernel
theorem dX5_bundle_10 : decode cX5_bundle 10 = .ok (.invokestatic 71, 3) := by decide +kernel
theorem dX5_bundle_13 : decode cX5_bundle 13 = .ok (.iconst 0, 1) := by decide +kernel
theorem dX5_bundle_14 : decode cX5_bundle 14 = .ok (.istore 4, 2) := by decide +kernel
theorem dX5_bundle_16 : decode cX5_bundle 16 = .ok (.iconst 0, 1) := by decide +kernel
theorem dX5_bundle_17 : decode cX5_bundle 17 = .ok (.istore 5, 2) := by decide +kernel
theorem dX5_bundle_19 : decode cX5_bundle 19 = .ok (.iload 5, 2) := by decide +kernel
theorem dX5_bundle_21 : decode cX5_bundle 21 = .ok (.aload_n 0, 1) := by decide +kernel
theorem dX5_bundle_22 : decode cX5_bundle 22 = .ok (.getfield 42, 3) := by decide +kernel
theorem dX5_bundle_25 : decode cX5_bundle 25 = .ok (.invokevirtual 85, 3) := by decide +kernel
theorem dX5_bundle_28 : decode cX5_bundle 28 = .ok (.if_icmp .ge 51, 3) := by decide +kernel
theorem dX5_bundle_31 : decode cX5_bundle 31 = .ok (.aload_n 0, 1) := by decide +kernel
theorem dX5_bundle_32 : decode cX5_bundle 32 = .ok (.getfield 42, 3) := by decide +kernel
theorem dX5_bundle_35 : decode cX5_bundle 35 = .ok (.iload 5, 2) := by decide +kernel
theorem dX5_bundle_37 : decode cX5_bundle 37 = .ok (.invokevirtual 126, 3) := by decide +kernel
theorem dX5_bundle_40 : decode cX5_bundle 40 = .ok (.checkcast 150, 3) := by decide +kernel
theorem dX5_bundle_43 : decode cX5_bundle 43 = .ok (.astore 6, 2) := by decide +kernel
theorem dX5_bundle_45 : decode cX5_bundle 45 = .ok (.aload 6, 2) := by decide +kernel
theorem dX5_bundle_47 : decode cX5_bundle 47 = .ok (.getfield 155, 3) := by decide +kernel
theorem dX5_bundle_50 : decode cX5_bundle 50 = .ok (.iload_n 2, 1) := by decide +kernel
theorem dX5_bundle_51 : decode cX5_bundle 51 = .ok (.if_icmp .ne 22, 3) := by decide +kernel
theorem dX5_bundle_54 : decode cX5_bundle 54 = .ok (.aload_n 3, 1) := by decide +kernel
theorem dX5_bundle_55 : decode cX5_bundle 55 = .ok (.aload 6, 2) := by decide +kernel
theorem dX5_bundle_57 : decode cX5_bundle 57 = .ok (.invokevirtual 168, 3) := by decide +kernel
theorem dX5_bundle_60 : decode cX5_bundle 60 = .ok (.ifCond .eq 13, 3) := by decide +kernel
theorem dX5_bundle_63 : decode cX5_bundle 63 = .ok (.iload 4, 2) := by decide +kernel
theorem dX5_bundle_65 : decode cX5_bundle 65 = .ok (.aload 6, 2) := by decide +kernel
theorem dX5_bundle_67 : decode cX5_bundle 67 = .ok (.getfield 161, 3) := by decide +kernel
theorem dX5_bundle_70 : decode cX5_bundle 70 = .ok (.iadd, 1) := by decide +kernel
theorem dX5_bundle_71 : decode cX5_bundle 71 = .ok (.istore 4, 2) := by decide +kernel
theorem dX5_bundle_73 : decode cX5_bundle 73 = .ok (.iinc 5 1, 3) := by decide +kernel
theorem dX5_bundle_76 : decode cX5_bundle 76 = .ok (.goto (-57), 3) := by decide +kernel
theorem dX5_bundle_79 : decode cX5_bundle 79 = .ok (.iload 4, 2) := by decide +kernel
theorem dX5_bundle_81 : decode cX5_bundle 81 = .ok (.ireturn, 1) := by decide +kernel
theorem dX5_demandRange_0 : decode cX5_demandRange 0 = .ok (.iload_n 0, 1) := by decide +kernel
theorem dX5_demandRange_1 : decode cX5_demandRange 1 = .ok (.iload_n 1, 1) := by decide +kernel
theorem dX5_demandRange_2 : decode cX5_demandRange 2 = .ok (.if_icmp .lt 8, 3) := by decide +kernel
theorem dX5_demandRange_5 : decode cX5_demandRange 5 = .ok (.iload_n 0, 1) := by decide +kernel
theorem dX5_demandRange_6 : decode cX5_demandRange 6 = .ok (.iload_n 2, 1) := by decide +kernel
theorem dX5_demandRange_7 : decode cX5_demandRange 7 = .ok (.if_icmp .le 13, 3) := by decide +kernel
theorem dX5_demandRange_10 : decode cX5_demandRange 10 = .ok (.new 211, 3) := by decide +kernel
theorem dX5_demandRange_13 : decode cX5_demandRange 13 = .ok (.dup, 1) := by decide +kernel
theorem dX5_demandRange_14 : decode cX5_demandRange 14 = .ok (.ldc 227, 2) := by decide +kernel
theorem dX5_demandRange_16 : decode cX5_demandRange 16 = .ok (.invokespecial 215, 3) := by decide +kernel
theorem dX5_demandRange_19 : decode cX5_demandRange 19 = .ok (.athrow, 1) := by decide +kernel
theorem dX5_demandRange_20 : decode cX5_demandRange 20 = .ok (.return_, 1) := by decide +kernel
theorem dX5_demandPage_0 : decode cX5_demandPage 0 = .ok (.iload_n 1, 1) := by decide +kernel
theorem dX5_demandPage_1 : decode cX5_demandPage 1 = .ok (.ifCond .lt 14, 3) := by decide +kernel
theorem dX5_demandPage_4 : decode cX5_demandPage 4 = .ok (.iload_n 1, 1) := by decide +kernel
theorem dX5_demandPage_5 : decode cX5_demandPage 5 = .ok (.aload_n 0, 1) := by decide +kernel
theorem dX5_demandPage_6 : decode cX5_demandPage 6 = .ok (.getfield 103, 3) := by decide +kernel
theorem dX5_demandPage_9 : decode cX5_demandPage 9 = .ok (.invokevirtual 85, 3) := by decide +kernel
theorem dX5_demandPage_12 : decode cX5_demandPage 12 = .ok (.if_icmp .lt 13, 3) := by decide +kernel
theorem dX5_demandPage_15 : decode cX5_demandPage 15 = .ok (.new 176, 3) := by decide +kernel
theorem dX5_demandPage_18 : decode cX5_demandPage 18 = .ok (.dup, 1) := by decide +kernel
theorem dX5_demandPage_19 : decode cX5_demandPage 19 = .ok (.ldc 229, 2) := by decide +kernel
theorem dX5_demandPage_21 : decode cX5_demandPage 21 = .ok (.invokespecial 180, 3) := by decide +kernel
theorem dX5_demandPage_24 : decode cX5_demandPage 24 = .ok (.athrow, 1) := by decide +kernel
theorem dX5_demandPage_25 : decode cX5_demandPage 25 = .ok (.return_, 1) := by decide +kernel
theorem dX5_isKind_0 : decode cX5_isKind 0 = .ok (.iload_n 1, 1) := by decide +kernel
theorem dX5_isKind_1 : decode cX5_isKind 1 = .ok (.ifCond .lt 16, 3) := by decide +kernel
theorem dX5_isKind_4 : decode cX5_isKind 4 = .ok (.iload_n 1, 1) := by decide +kernel
theorem dX5_isKind_5 : decode cX5_isKind 5 = .ok (.aload_n 0, 1) := by decide +kernel
theorem dX5_isKind_6 : decode cX5_isKind 6 = .ok (.getfield 48, 3) := by decide +kernel
theorem dX5_isKind_9 : decode cX5_isKind 9 = .ok (.arraylength, 1) := by decide +kernel
theorem dX5_isKind_10 : decode cX5_isKind 10 = .ok (.if_icmp .ge 7, 3) := by decide +kernel
theorem dX5_isKind_13 : decode cX5_isKind 13 = .ok (.iconst 1, 1) := by decide +kernel
theorem dX5_isKind_14 : decode cX5_isKind 14 = .ok (.goto 4, 3) := by decide +kernel
theorem dX5_isKind_17 : decode cX5_isKind 17 = .ok (.iconst 0, 1) := by decide +kernel
theorem dX5_isKind_18 : decode cX5_isKind 18 = .ok (.ireturn, 1) := by decide +kernel
theorem dX5_isAccount_0 : decode cX5_isAccount 0 = .ok (.iload_n 1, 1) := by decide +kernel
theorem dX5_isAccount_1 : decode cX5_isAccount 1 = .ok (.ifCond .lt 16, 3) := by decide +kernel
theorem dX5_isAccount_4 : decode cX5_isAccount 4 = .ok (.iload_n 1, 1) := by decide +kernel
theorem dX5_isAccount_5 : decode cX5_isAccount 5 = .ok (.aload_n 0, 1) := by decide +kernel
theorem dX5_isAccount_6 : decode cX5_isAccount 6 = .ok (.getfield 52, 3) := by decide +kernel
theorem dX5_isAccount_9 : decode cX5_isAccount 9 = .ok (.arraylength, 1) := by decide +kernel
theorem dX5_isAccount_10 : decode cX5_isAccount 10 = .ok (.if_icmp .ge 7, 3) := by decide +kernel
theorem dX5_isAccount_13 : decode cX5_isAccount 13 = .ok (.iconst 1, 1) := by decide +kernel
theorem dX5_isAccount_14 : decode cX5_isAccount 14 = .ok (.goto 4, 3) := by decide +kernel
theorem dX5_isAccount_17 : decode cX5_isAccount 17 = .ok (.iconst 0, 1) := by decide +kernel
theorem dX5_isAccount_18 : decode cX5_isAccount 18 = .ok (.ireturn, 1) := by decide +kernel
theorem dX5_runAt_0 : decode cX5_runAt 0 = .ok (.iload_n 1, 1) := by decide +kernel
theorem dX5_runAt_1 : decode cX5_runAt 1 = .ok (.ifCond .lt 14, 3) := by decide +kernel
theorem dX5_runAt_4 : decode cX5_runAt 4 = .ok (.iload_n 1, 1) := by decide +kernel
theorem dX5_runAt_5 : decode cX5_runAt 5 = .ok (.aload_n 0, 1) := by decide +kernel
theorem dX5_runAt_6 : decode cX5_runAt 6 = .ok (.getfield 25, 3) := by decide +kernel
theorem dX5_runAt_9 : decode cX5_runAt 9 = .ok (.invokevirtual 85, 3) := by decide +kernel
theorem dX5_runAt_12 : decode cX5_runAt 12 = .ok (.if_icmp .lt 13, 3) := by decide +kernel
theorem dX5_runAt_15 : decode cX5_runAt 15 = .ok (.new 176, 3) := by decide +kernel
theorem dX5_runAt_18 : decode cX5_runAt 18 = .ok (.dup, 1) := by decide +kernel
theorem dX5_runAt_19 : decode cX5_runAt 19 = .ok (.ldc 231, 2) := by decide +kernel
theorem dX5_runAt_21 : decode cX5_runAt 21 = .ok (.invokespecial 180, 3) := by decide +kernel
theorem dX5_runAt_24 : decode cX5_runAt 24 = .ok (.athrow, 1) := by decide +kernel
theorem dX5_runAt_25 : decode cX5_runAt 25 = .ok (.aload_n 0, 1) := by decide +kernel
theorem dX5_runAt_26 : decode cX5_runAt 26 = .ok (.getfield 25, 3) := by decide +kernel
theorem dX5_runAt_29 : decode cX5_runAt 29 = .ok (.iload_n 1, 1) := by decide +kernel
theorem dX5_runAt_30 : decode cX5_runAt 30 = .ok (.invokevirtual 126, 3) := by decide +kernel
theorem dX5_runAt_33 : decode cX5_runAt 33 = .ok (.checkcast 28, 3) := by decide +kernel
theorem dX5_runAt_36 : decode cX5_runAt 36 = .ok (.areturn, 1) := by decide +kernel
theorem dX5_pageAt_0 : decode cX5_pageAt 0 = .ok (.aload_n 0, 1) := by decide +kernel
theorem dX5_pageAt_1 : decode cX5_pageAt 1 = .ok (.iload_n 1, 1) := by decide +kernel
theorem dX5_pageAt_2 : decode cX5_pageAt 2 = .ok (.invokestatic 134, 3) := by decide +kernel
theorem dX5_pageAt_5 : decode cX5_pageAt 5 = .ok (.aload_n 0, 1) := by decide +kernel
theorem dX5_pageAt_6 : decode cX5_pageAt 6 = .ok (.getfield 103, 3) := by decide +kernel
theorem dX5_pageAt_9 : decode cX5_pageAt 9 = .ok (.iload_n 1, 1) := by decide +kernel
theorem dX5_pageAt_10 : decode cX5_pageAt 10 = .ok (.invokevirtual 126, 3) := by decide +kernel
theorem dX5_pageAt_13 : decode cX5_pageAt 13 = .ok (.checkcast 35, 3) := by decide +kernel
theorem dX5_pageAt_16 : decode cX5_pageAt 16 = .ok (.areturn, 1) := by decide +kernel
theorem dX5_documentAt_0 : decode cX5_documentAt 0 = .ok (.iload_n 1, 1) := by decide +kernel
theorem dX5_documentAt_1 : decode cX5_documentAt 1 = .ok (.ifCond .lt 14, 3) := by decide +kernel
theorem dX5_documentAt_4 : decode cX5_documentAt 4 = .ok (.iload_n 1, 1) := by decide +kernel
theorem dX5_documentAt_5 : decode cX5_documentAt 5 = .ok (.aload_n 0, 1) := by decide +kernel
theorem dX5_documentAt_6 : decode cX5_documentAt 6 = .ok (.getfield 42, 3) := by decide +kernel
theorem dX5_documentAt_9 : decode cX5_documentAt 9 = .ok (.invokevirtual 85, 3) := by decide +kernel
theorem dX5_documentAt_12 : decode cX5_documentAt 12 = .ok (.if_icmp .lt 13, 3) := by decide +kernel
theorem dX5_documentAt_15 : decode cX5_documentAt 15 = .ok (.new 176, 3) := by decide +kernel
theorem dX5_documentAt_18 : decode cX5_documentAt 18 = .ok (.dup, 1) := by decide +kernel
theorem dX5_documentAt_19 : decode cX5_documentAt 19 = .ok (.ldc 233, 2) := by decide +kernel
theorem dX5_documentAt_21 : decode cX5_documentAt 21 = .ok (.invokespecial 180, 3) := by decide +kernel
theorem dX5_documentAt_24 : decode cX5_documentAt 24 = .ok (.athrow, 1) := by decide +kernel
theorem dX5_documentAt_25 : decode cX5_documentAt 25 = .ok (.aload_n 0, 1) := by decide +kernel
theorem dX5_documentAt_26 : decode cX5_documentAt 26 = .ok (.getfield 42, 3) := by decide +kernel
theorem dX5_documentAt_29 : decode cX5_documentAt 29 = .ok (.iload_n 1, 1) := by decide +kernel
theorem dX5_documentAt_30 : decode cX5_documentAt 30 = .ok (.invokevirtual 126, 3) := by decide +kernel
theorem dX5_documentAt_33 : decode cX5_documentAt 33 = .ok (.checkcast 150, 3) := by decide +kernel
theorem dX5_documentAt_36 : decode cX5_documentAt 36 = .ok (.areturn, 1) := by decide +kernel
theorem dX5_pageOf_0 : decode cX5_pageOf 0 = .ok (.iload_n 1, 1) := by decide +kernel
theorem dX5_pageOf_1 : decode cX5_pageOf 1 = .ok (.ifCond .lt 11, 3) := by decide +kernel
theorem dX5_pageOf_4 : decode cX5_pageOf 4 = .ok (.iload_n 1, 1) := by decide +kernel
theorem dX5_pageOf_5 : decode cX5_pageOf 5 = .ok (.aload_n 0, 1) := by decide +kernel
theorem dX5_pageOf_6 : decode cX5_pageOf 6 = .ok (.getfield 161, 3) := by decide +kernel
theorem dX5_pageOf_9 : decode cX5_pageOf 9 = .ok (.if_icmp .lt 13, 3) := by decide +kernel
theorem dX5_pageOf_12 : decode cX5_pageOf 12 = .ok (.new 176, 3) := by decide +kernel
theorem dX5_pageOf_15 : decode cX5_pageOf 15 = .ok (.dup, 1) := by decide +kernel
theorem dX5_pageOf_16 : decode cX5_pageOf 16 = .ok (.ldc 229, 2) := by decide +kernel
theorem dX5_pageOf_18 : decode cX5_pageOf 18 = .ok (.invokespecial 180, 3) := by decide +kernel
theorem dX5_pageOf_21 : decode cX5_pageOf 21 = .ok (.athrow, 1) := by decide +kernel
theorem dX5_pageOf_22 : decode cX5_pageOf 22 = .ok (.aload_n 0, 1) := by decide +kernel
theorem dX5_pageOf_23 : decode cX5_pageOf 23 = .ok (.getfield 235, 3) := by decide +kernel
theorem dX5_pageOf_26 : decode cX5_pageOf 26 = .ok (.aload_n 0, 1) := by decide +kernel
theorem dX5_pageOf_27 : decode cX5_pageOf 27 = .ok (.getfield 238, 3) := by decide +kernel
theorem dX5_pageOf_30 : decode cX5_pageOf 30 = .ok (.iload_n 1, 1) := by decide +kernel
theorem dX5_pageOf_31 : decode cX5_pageOf 31 = .ok (.iadd, 1) := by decide +kernel
theorem dX5_pageOf_32 : decode cX5_pageOf 32 = .ok (.invokestatic 141, 3) := by decide +kernel
theorem dX5_pageOf_35 : decode cX5_pageOf 35 = .ok (.areturn, 1) := by decide +kernel
theorem dX5_readerAt_0 : decode cX5_readerAt 0 = .ok (.iload_n 1, 1) := by decide +kernel
theorem dX5_readerAt_1 : decode cX5_readerAt 1 = .ok (.ifCond .lt 14, 3) := by decide +kernel
theorem dX5_readerAt_4 : decode cX5_readerAt 4 = .ok (.iload_n 1, 1) := by decide +kernel
theorem dX5_readerAt_5 : decode cX5_readerAt 5 = .ok (.aload_n 0, 1) := by decide +kernel
theorem dX5_readerAt_6 : decode cX5_readerAt 6 = .ok (.getfield 45, 3) := by decide +kernel
theorem dX5_readerAt_9 : decode cX5_readerAt 9 = .ok (.invokevirtual 85, 3) := by decide +kernel
theorem dX5_readerAt_12 : decode cX5_readerAt 12 = .ok (.if_icmp .lt 13, 3) := by decide +kernel
theorem dX5_readerAt_15 : decode cX5_readerAt 15 = .ok (.new 211, 3) := by decide +kernel
theorem dX5_readerAt_18 : decode cX5_readerAt 18 = .ok (.dup, 1) := by decide +kernel
theorem dX5_readerAt_19 : decode cX5_readerAt 19 = .ok (.ldc 241, 2) := by decide +kernel
theorem dX5_readerAt_21 : decode cX5_readerAt 21 = .ok (.invokespecial 215, 3) := by decide +kernel
theorem dX5_readerAt_24 : decode cX5_readerAt 24 = .ok (.athrow, 1) := by decide +kernel
theorem dX5_readerAt_25 : decode cX5_readerAt 25 = .ok (.aload_n 0, 1) := by decide +kernel
theorem dX5_readerAt_26 : decode cX5_readerAt 26 = .ok (.getfield 45, 3) := by decide +kernel
theorem dX5_readerAt_29 : decode cX5_readerAt 29 = .ok (.iload_n 1, 1) := by decide +kernel
theorem dX5_readerAt_30 : decode cX5_readerAt 30 = .ok (.invokevirtual 126, 3) := by decide +kernel
theorem dX5_readerAt_33 : decode cX5_readerAt 33 = .ok (.checkcast 56, 3) := by decide +kernel
theorem dX5_readerAt_36 : decode cX5_readerAt 36 = .ok (.areturn, 1) := by decide +kernel
theorem dX5_closePage_0 : decode cX5_closePage 0 = .ok (.aload_n 0, 1) := by decide +kernel
theorem dX5_closePage_1 : decode cX5_closePage 1 = .ok (.getfield 31, 3) := by decide +kernel
theorem dX5_closePage_4 : decode cX5_closePage 4 = .ok (.getfield 103, 3) := by decide +kernel
theorem dX5_closePage_7 : decode cX5_closePage 7 = .ok (.aload_n 0, 1) := by decide +kernel
theorem dX5_closePage_8 : decode cX5_closePage 8 = .ok (.getfield 38, 3) := by decide +kernel
theorem dX5_closePage_11 : decode cX5_closePage 11 = .ok (.invokevirtual 61, 3) := by decide +kernel
theorem dX5_closePage_14 : decode cX5_closePage 14 = .ok (.pop, 1) := by decide +kernel
theorem dX5_closePage_15 : decode cX5_closePage 15 = .ok (.aload_n 0, 1) := by decide +kernel
theorem dX5_closePage_16 : decode cX5_closePage 16 = .ok (.new 35, 3) := by decide +kernel
theorem dX5_closePage_19 : decode cX5_closePage 19 = .ok (.dup, 1) := by decide +kernel
theorem dX5_closePage_20 : decode cX5_closePage 20 = .ok (.invokespecial 37, 3) := by decide +kernel
theorem dX5_closePage_23 : decode cX5_closePage 23 = .ok (.putfield 38, 3) := by decide +kernel
theorem dX5_closePage_26 : decode cX5_closePage 26 = .ok (.return_, 1) := by decide +kernel
theorem dX5_keepOpenRun_0 : decode cX5_keepOpenRun 0 = .ok (.aload_n 0, 1) := by decide +kernel
theorem dX5_keepOpenRun_1 : decode cX5_keepOpenRun 1 = .ok (.getfield 31, 3) := by decide +kernel
theorem dX5_keepOpenRun_4 : decode cX5_keepOpenRun 4 = .ok (.aload_n 0, 1) := by decide +kernel
theorem dX5_keepOpenRun_5 : decode cX5_keepOpenRun 5 = .ok (.getfield 74, 3) := by decide +kernel
theorem dX5_keepOpenRun_8 : decode cX5_keepOpenRun 8 = .ok (.putfield 243, 3) := by decide +kernel
theorem dX5_keepOpenRun_11 : decode cX5_keepOpenRun 11 = .ok (.aload_n 0, 1) := by decide +kernel
theorem dX5_keepOpenRun_12 : decode cX5_keepOpenRun 12 = .ok (.getfield 25, 3) := by decide +kernel
theorem dX5_keepOpenRun_15 : decode cX5_keepOpenRun 15 = .ok (.aload_n 0, 1) := by decide +kernel
theorem dX5_keepOpenRun_16 : decode cX5_keepOpenRun 16 = .ok (.getfield 31, 3) := by decide +kernel
theorem dX5_keepOpenRun_19 : decode cX5_keepOpenRun 19 = .ok (.invokevirtual 61, 3) := by decide +kernel
theorem dX5_keepOpenRun_22 : decode cX5_keepOpenRun 22 = .ok (.pop, 1) := by decide +kernel
theorem dX5_keepOpenRun_23 : decode cX5_keepOpenRun 23 = .ok (.aload_n 0, 1) := by decide +kernel
theorem dX5_keepOpenRun_24 : decode cX5_keepOpenRun 24 = .ok (.dup, 1) := by decide +kernel
theorem dX5_keepOpenRun_25 : decode cX5_keepOpenRun 25 = .ok (.getfield 100, 3) := by decide +kernel
theorem dX5_keepOpenRun_28 : decode cX5_keepOpenRun 28 = .ok (.aload_n 0, 1) := by decide +kernel
theorem dX5_keepOpenRun_29 : decode cX5_keepOpenRun 29 = .ok (.getfield 31, 3) := by decide +kernel
theorem dX5_keepOpenRun_32 : decode cX5_keepOpenRun 32 = .ok (.getfield 103, 3) := by decide +kernel
theorem dX5_keepOpenRun_35 : decode cX5_keepOpenRun 35 = .ok (.invokevirtual 85, 3) := by decide +kernel
theorem dX5_keepOpenRun_38 : decode cX5_keepOpenRun 38 = .ok (.iadd, 1) := by decide +kernel
theorem dX5_keepOpenRun_39 : decode cX5_keepOpenRun 39 = .ok (.putfield 100, 3) := by decide +kernel
theorem dX5_keepOpenRun_42 : decode cX5_keepOpenRun 42 = .ok (.aload_n 0, 1) := by decide +kernel
theorem dX5_keepOpenRun_43 : decode cX5_keepOpenRun 43 = .ok (.aload_n 0, 1) := by decide +kernel
theorem dX5_keepOpenRun_44 : decode cX5_keepOpenRun 44 = .ok (.getfield 31, 3) := by decide +kernel
theorem dX5_keepOpenRun_47 : decode cX5_keepOpenRun 47 = .ok (.invokevirtual 244, 3) := by decide +kernel
theorem dX5_keepOpenRun_50 : decode cX5_keepOpenRun 50 = .ok (.aload_n 0, 1) := by decide +kernel
theorem dX5_keepOpenRun_51 : decode cX5_keepOpenRun 51 = .ok (.new 28, 3) := by decide +kernel
theorem dX5_keepOpenRun_54 : decode cX5_keepOpenRun 54 = .ok (.dup, 1) := by decide +kernel
theorem dX5_keepOpenRun_55 : decode cX5_keepOpenRun 55 = .ok (.invokespecial 30, 3) := by decide +kernel
theorem dX5_keepOpenRun_58 : decode cX5_keepOpenRun 58 = .ok (.putfield 31, 3) := by decide +kernel
theorem dX5_keepOpenRun_61 : decode cX5_keepOpenRun 61 = .ok (.return_, 1) := by decide +kernel
theorem dX5_putTogether_0 : decode cX5_putTogether 0 = .ok (.aload_n 0, 1) := by decide +kernel
theorem dX5_putTogether_1 : decode cX5_putTogether 1 = .ok (.aload_n 1, 1) := by decide +kernel
theorem dX5_putTogether_2 : decode cX5_putTogether 2 = .ok (.getfield 243, 3) := by decide +kernel
theorem dX5_putTogether_5 : decode cX5_putTogether 5 = .ok (.invokevirtual 248, 3) := by decide +kernel
theorem dX5_putTogether_8 : decode cX5_putTogether 8 = .ok (.astore_n 2, 1) := by decide +kernel
theorem dX5_putTogether_9 : decode cX5_putTogether 9 = .ok (.aconst_null, 1) := by decide +kernel
theorem dX5_putTogether_10 : decode cX5_putTogether 10 = .ok (.astore_n 3, 1) := by decide +kernel
theorem dX5_putTogether_11 : decode cX5_putTogether 11 = .ok (.iconst 0, 1) := by decide +kernel
theorem dX5_putTogether_12 : decode cX5_putTogether 12 = .ok (.istore 4, 2) := by decide +kernel
theorem dX5_putTogether_14 : decode cX5_putTogether 14 = .ok (.iload 4, 2) := by decide +kernel
theorem dX5_putTogether_16 : decode cX5_putTogether 16 = .ok (.aload_n 1, 1) := by decide +kernel
theorem dX5_putTogether_17 : decode cX5_putTogether 17 = .ok (.getfield 103, 3) := by decide +kernel
theorem dX5_putTogether_20 : decode cX5_putTogether 20 = .ok (.invokevirtual 85, 3) := by decide +kernel
theorem dX5_putTogether_23 : decode cX5_putTogether 23 = .ok (.if_icmp .ge 91, 3) := by decide +kernel
theorem dX5_putTogether_26 : decode cX5_putTogether 26 = .ok (.aload_n 1, 1) := by decide +kernel
theorem dX5_putTogether_27 : decode cX5_putTogether 27 = .ok (.getfield 103, 3) := by decide +kernel
theorem dX5_putTogether_30 : decode cX5_putTogether 30 = .ok (.iload 4, 2) := by decide +kernel
theorem dX5_putTogether_32 : decode cX5_putTogether 32 = .ok (.invokevirtual 126, 3) := by decide +kernel
theorem dX5_putTogether_35 : decode cX5_putTogether 35 = .ok (.checkcast 35, 3) := by decide +kernel
theorem dX5_putTogether_38 : decode cX5_putTogether 38 = .ok (.astore 5, 2) := by decide +kernel
theorem dX5_putTogether_40 : decode cX5_putTogether 40 = .ok (.aload 5, 2) := by decide +kernel
theorem dX5_putTogether_42 : decode cX5_putTogether 42 = .ok (.aload_n 2, 1) := by decide +kernel
theorem dX5_putTogether_43 : decode cX5_putTogether 43 = .ok (.getfield 252, 3) := by decide +kernel
theorem dX5_putTogether_46 : decode cX5_putTogether 46 = .ok (.invokevirtual 198, 3) := by decide +kernel
theorem dX5_putTogether_49 : decode cX5_putTogether 49 = .ok (.istore 6, 2) := by decide +kernel
theorem dX5_putTogether_51 : decode cX5_putTogether 51 = .ok (.aload_n 3, 1) := by decide +kernel
theorem dX5_putTogether_52 : decode cX5_putTogether 52 = .ok (.ifnull 18, 3) := by decide +kernel
theorem dX5_putTogether_55 : decode cX5_putTogether 55 = .ok (.iload 6, 2) := by decide +kernel
theorem dX5_putTogether_57 : decode cX5_putTogether 57 = .ok (.iconst (-1), 1) := by decide +kernel
theorem dX5_putTogether_58 : decode cX5_putTogether 58 = .ok (.if_icmp .eq 40, 3) := by decide +kernel
theorem dX5_putTogether_61 : decode cX5_putTogether 61 = .ok (.iload 6, 2) := by decide +kernel
theorem dX5_putTogether_63 : decode cX5_putTogether 63 = .ok (.aload_n 3, 1) := by decide +kernel
theorem dX5_putTogether_64 : decode cX5_putTogether 64 = .ok (.getfield 155, 3) := by decide +kernel
theorem dX5_putTogether_67 : decode cX5_putTogether 67 = .ok (.if_icmp .eq 31, 3) := by decide +kernel
theorem dX5_putTogether_70 : decode cX5_putTogether 70 = .ok (.new 150, 3) := by decide +kernel
theorem dX5_putTogether_73 : decode cX5_putTogether 73 = .ok (.dup, 1) := by decide +kernel
theorem dX5_putTogether_74 : decode cX5_putTogether 74 = .ok (.aload_n 1, 1) := by decide +kernel
theorem dX5_putTogether_75 : decode cX5_putTogether 75 = .ok (.iload 4, 2) := by decide +kernel
theorem dX5_putTogether_77 : decode cX5_putTogether 77 = .ok (.iload 6, 2) := by decide +kernel
theorem dX5_putTogether_79 : decode cX5_putTogether 79 = .ok (.aload 5, 2) := by decide +kernel
theorem dX5_putTogether_81 : decode cX5_putTogether 81 = .ok (.aload_n 2, 1) := by decide +kernel
theorem dX5_putTogether_82 : decode cX5_putTogether 82 = .ok (.invokestatic 255, 3) := by decide +kernel
theorem dX5_putTogether_85 : decode cX5_putTogether 85 = .ok (.invokespecial 259, 3) := by decide +kernel
theorem dX5_putTogether_88 : decode cX5_putTogether 88 = .ok (.astore_n 3, 1) := by decide +kernel
theorem dX5_putTogether_89 : decode cX5_putTogether 89 = .ok (.aload_n 0, 1) := by decide +kernel
theorem dX5_putTogether_90 : decode cX5_putTogether 90 = .ok (.getfield 42, 3) := by decide +kernel
theorem dX5_putTogether_93 : decode cX5_putTogether 93 = .ok (.aload_n 3, 1) := by decide +kernel
theorem dX5_putTogether_94 : decode cX5_putTogether 94 = .ok (.invokevirtual 61, 3) := by decide +kernel
theorem dX5_putTogether_97 : decode cX5_putTogether 97 = .ok (.pop, 1) := by decide +kernel
theorem dX5_putTogether_98 : decode cX5_putTogether 98 = .ok (.aload_n 3, 1) := by decide +kernel
theorem dX5_putTogether_99 : decode cX5_putTogether 99 = .ok (.dup, 1) := by decide +kernel
theorem dX5_putTogether_100 : decode cX5_putTogether 100 = .ok (.getfield 161, 3) := by decide +kernel
theorem dX5_putTogether_103 : decode cX5_putTogether 103 = .ok (.iconst 1, 1) := by decide +kernel
theorem dX5_putTogether_104 : decode cX5_putTogether 104 = .ok (.iadd, 1) := by decide +kernel
theorem dX5_putTogether_105 : decode cX5_putTogether 105 = .ok (.putfield 161, 3) := by decide +kernel
theorem dX5_putTogether_108 : decode cX5_putTogether 108 = .ok (.iinc 4 1, 3) := by decide +kernel
theorem dX5_putTogether_111 : decode cX5_putTogether 111 = .ok (.goto (-97), 3) := by decide +kernel
theorem dX5_putTogether_114 : decode cX5_putTogether 114 = .ok (.return_, 1) := by decide +kernel
theorem dX5_kindOf_0 : decode cX5_kindOf 0 = .ok (.aload_n 0, 1) := by decide +kernel
theorem dX5_kindOf_1 : decode cX5_kindOf 1 = .ok (.aload_n 1, 1) := by decide +kernel
theorem dX5_kindOf_2 : decode cX5_kindOf 2 = .ok (.getfield 262, 3) := by decide +kernel
theorem dX5_kindOf_5 : decode cX5_kindOf 5 = .ok (.invokevirtual 185, 3) := by decide +kernel
theorem dX5_kindOf_8 : decode cX5_kindOf 8 = .ok (.ifCond .eq 16, 3) := by decide +kernel
theorem dX5_kindOf_11 : decode cX5_kindOf 11 = .ok (.aload_n 0, 1) := by decide +kernel
theorem dX5_kindOf_12 : decode cX5_kindOf 12 = .ok (.aload_n 1, 1) := by decide +kernel
theorem dX5_kindOf_13 : decode cX5_kindOf 13 = .ok (.getfield 262, 3) := by decide +kernel
theorem dX5_kindOf_16 : decode cX5_kindOf 16 = .ok (.invokevirtual 198, 3) := by decide +kernel
theorem dX5_kindOf_19 : decode cX5_kindOf 19 = .ok (.iconst 4, 1) := by decide +kernel
theorem dX5_kindOf_20 : decode cX5_kindOf 20 = .ok (.irem, 1) := by decide +kernel
theorem dX5_kindOf_21 : decode cX5_kindOf 21 = .ok (.goto 4, 3) := by decide +kernel
theorem dX5_kindOf_24 : decode cX5_kindOf 24 = .ok (.iconst 0, 1) := by decide +kernel
theorem dX5_kindOf_25 : decode cX5_kindOf 25 = .ok (.ireturn, 1) := by decide +kernel
theorem dX5_formatOn_0 : decode cX5_formatOn 0 = .ok (.aload_n 0, 1) := by decide +kernel
theorem dX5_formatOn_1 : decode cX5_formatOn 1 = .ok (.getfield 14, 3) := by decide +kernel
theorem dX5_formatOn_4 : decode cX5_formatOn 4 = .ok (.astore_n 2, 1) := by decide +kernel
theorem dX5_formatOn_5 : decode cX5_formatOn 5 = .ok (.iconst 0, 1) := by decide +kernel
theorem dX5_formatOn_6 : decode cX5_formatOn 6 = .ok (.istore_n 3, 1) := by decide +kernel
theorem dX5_formatOn_7 : decode cX5_formatOn 7 = .ok (.iload_n 3, 1) := by decide +kernel
theorem dX5_formatOn_8 : decode cX5_formatOn 8 = .ok (.aload_n 0, 1) := by decide +kernel
theorem dX5_formatOn_9 : decode cX5_formatOn 9 = .ok (.getfield 21, 3) := by decide +kernel
theorem dX5_formatOn_12 : decode cX5_formatOn 12 = .ok (.invokevirtual 85, 3) := by decide +kernel
theorem dX5_formatOn_15 : decode cX5_formatOn 15 = .ok (.if_icmp .ge 46, 3) := by decide +kernel
theorem dX5_formatOn_18 : decode cX5_formatOn 18 = .ok (.aload_n 0, 1) := by decide +kernel
theorem dX5_formatOn_19 : decode cX5_formatOn 19 = .ok (.getfield 21, 3) := by decide +kernel
theorem dX5_formatOn_22 : decode cX5_formatOn 22 = .ok (.iload_n 3, 1) := by decide +kernel
theorem dX5_formatOn_23 : decode cX5_formatOn 23 = .ok (.invokevirtual 126, 3) := by decide +kernel
theorem dX5_formatOn_26 : decode cX5_formatOn 26 = .ok (.checkcast 9, 3) := by decide +kernel
theorem dX5_formatOn_29 : decode cX5_formatOn 29 = .ok (.astore 4, 2) := by decide +kernel
theorem dX5_formatOn_31 : decode cX5_formatOn 31 = .ok (.aload 4, 2) := by decide +kernel
theorem dX5_formatOn_33 : decode cX5_formatOn 33 = .ok (.getfield 265, 3) := by decide +kernel
theorem dX5_formatOn_36 : decode cX5_formatOn 36 = .ok (.iload_n 1, 1) := by decide +kernel
theorem dX5_formatOn_37 : decode cX5_formatOn 37 = .ok (.if_icmp .gt 18, 3) := by decide +kernel
theorem dX5_formatOn_40 : decode cX5_formatOn 40 = .ok (.aload 4, 2) := by decide +kernel
theorem dX5_formatOn_42 : decode cX5_formatOn 42 = .ok (.getfield 265, 3) := by decide +kernel
theorem dX5_formatOn_45 : decode cX5_formatOn 45 = .ok (.aload_n 2, 1) := by decide +kernel
theorem dX5_formatOn_46 : decode cX5_formatOn 46 = .ok (.getfield 265, 3) := by decide +kernel
theorem dX5_formatOn_49 : decode cX5_formatOn 49 = .ok (.if_icmp .lt 6, 3) := by decide +kernel
theorem dX5_formatOn_52 : decode cX5_formatOn 52 = .ok (.aload 4, 2) := by decide +kernel
theorem dX5_formatOn_54 : decode cX5_formatOn 54 = .ok (.astore_n 2, 1) := by decide +kernel
theorem dX5_formatOn_55 : decode cX5_formatOn 55 = .ok (.iinc 3 1, 3) := by decide +kernel
theorem dX5_formatOn_58 : decode cX5_formatOn 58 = .ok (.goto (-51), 3) := by decide +kernel
theorem dX5_formatOn_61 : decode cX5_formatOn 61 = .ok (.aload_n 2, 1) := by decide +kernel
theorem dX5_formatOn_62 : decode cX5_formatOn 62 = .ok (.areturn, 1) := by decide +kernel
theorem dX5_isOver_0 : decode cX5_isOver 0 = .ok (.aload_n 0, 1) := by decide +kernel
theorem dX5_isOver_1 : decode cX5_isOver 1 = .ok (.aload_n 1, 1) := by decide +kernel
theorem dX5_isOver_2 : decode cX5_isOver 2 = .ok (.getfield 158, 3) := by decide +kernel
theorem dX5_isOver_5 : decode cX5_isOver 5 = .ok (.invokevirtual 208, 3) := by decide +kernel
theorem dX5_isOver_8 : decode cX5_isOver 8 = .ok (.ifCond .eq 31, 3) := by decide +kernel
theorem dX5_isOver_11 : decode cX5_isOver 11 = .ok (.aload_n 0, 1) := by decide +kernel
theorem dX5_isOver_12 : decode cX5_isOver 12 = .ok (.getfield 74, 3) := by decide +kernel
theorem dX5_isOver_15 : decode cX5_isOver 15 = .ok (.aload_n 1, 1) := by decide +kernel
theorem dX5_isOver_16 : decode cX5_isOver 16 = .ok (.getfield 235, 3) := by decide +kernel
theorem dX5_isOver_19 : decode cX5_isOver 19 = .ok (.getfield 243, 3) := by decide +kernel
theorem dX5_isOver_22 : decode cX5_isOver 22 = .ok (.aload_n 0, 1) := by decide +kernel
theorem dX5_isOver_23 : decode cX5_isOver 23 = .ok (.getfield 48, 3) := by decide +kernel
theorem dX5_isOver_26 : decode cX5_isOver 26 = .ok (.aload_n 1, 1) := by decide +kernel
theorem dX5_isOver_27 : decode cX5_isOver 27 = .ok (.getfield 158, 3) := by decide +kernel
theorem dX5_isOver_30 : decode cX5_isOver 30 = .ok (.iaload, 1) := by decide +kernel
theorem dX5_isOver_31 : decode cX5_isOver 31 = .ok (.iadd, 1) := by decide +kernel
theorem dX5_isOver_32 : decode cX5_isOver 32 = .ok (.if_icmp .le 7, 3) := by decide +kernel
theorem dX5_isOver_35 : decode cX5_isOver 35 = .ok (.iconst 1, 1) := by decide +kernel
theorem dX5_isOver_36 : decode cX5_isOver 36 = .ok (.goto 4, 3) := by decide +kernel
theorem dX5_isOver_39 : decode cX5_isOver 39 = .ok (.iconst 0, 1) := by decide +kernel
theorem dX5_isOver_40 : decode cX5_isOver 40 = .ok (.ireturn, 1) := by decide +kernel
theorem dX5_isHeld_0 : decode cX5_isHeld 0 = .ok (.aload_n 0, 1) := by decide +kernel
theorem dX5_isHeld_1 : decode cX5_isHeld 1 = .ok (.aload_n 1, 1) := by decide +kernel
theorem dX5_isHeld_2 : decode cX5_isHeld 2 = .ok (.getfield 155, 3) := by decide +kernel
theorem dX5_isHeld_5 : decode cX5_isHeld 5 = .ok (.invokevirtual 216, 3) := by decide +kernel
theorem dX5_isHeld_8 : decode cX5_isHeld 8 = .ok (.ifCond .eq 19, 3) := by decide +kernel
theorem dX5_isHeld_11 : decode cX5_isHeld 11 = .ok (.aload_n 0, 1) := by decide +kernel
theorem dX5_isHeld_12 : decode cX5_isHeld 12 = .ok (.getfield 52, 3) := by decide +kernel
theorem dX5_isHeld_15 : decode cX5_isHeld 15 = .ok (.aload_n 1, 1) := by decide +kernel
theorem dX5_isHeld_16 : decode cX5_isHeld 16 = .ok (.getfield 155, 3) := by decide +kernel
theorem dX5_isHeld_19 : decode cX5_isHeld 19 = .ok (.baload, 1) := by decide +kernel
theorem dX5_isHeld_20 : decode cX5_isHeld 20 = .ok (.ifCond .eq 7, 3) := by decide +kernel
theorem dX5_isHeld_23 : decode cX5_isHeld 23 = .ok (.iconst 1, 1) := by decide +kernel
theorem dX5_isHeld_24 : decode cX5_isHeld 24 = .ok (.goto 4, 3) := by decide +kernel
theorem dX5_isHeld_27 : decode cX5_isHeld 27 = .ok (.iconst 0, 1) := by decide +kernel
theorem dX5_isHeld_28 : decode cX5_isHeld 28 = .ok (.ireturn, 1) := by decide +kernel
theorem dJ9_max_7cf53_0 : decode cJ9_max_7cf53 0 = .ok (.iload_n 0, 1) := by decide +kernel
theorem dJ9_max_7cf53_1 : decode cJ9_max_7cf53 1 = .ok (.iload_n 1, 1) := by decide +kernel
theorem dJ9_max_7cf53_2 : decode cJ9_max_7cf53 2 = .ok (.if_icmp .lt 7, 3) := by decide +kernel
theorem dJ9_max_7cf53_5 : decode cJ9_max_7cf53 5 = .ok (.iload_n 0, 1) := by decide +kernel
theorem dJ9_max_7cf53_6 : decode cJ9_max_7cf53 6 = .ok (.goto 4, 3) := by decide +kernel
theorem dJ9_max_7cf53_9 : decode cJ9_max_7cf53 9 = .ok (.iload_n 1, 1) := by decide +kernel
theorem dJ9_max_7cf53_10 : decode cJ9_max_7cf53 10 = .ok (.ireturn, 1) := by decide +kernel
theorem dJ9_min_7cf53_0 : decode cJ9_min_7cf53 0 = .ok (.iload_n 0, 1) := by decide +kernel
theorem dJ9_min_7cf53_1 : decode cJ9_min_7cf53 1 = .ok (.iload_n 1, 1) := by decide +kernel
theorem dJ9_min_7cf53_2 : decode cJ9_min_7cf53 2 = .ok (.if_icmp .gt 7, 3) := by decide +kernel
theorem dJ9_min_7cf53_5 : decode cJ9_min_7cf53 5 = .ok (.iload_n 0, 1) := by decide +kernel
theorem dJ9_min_7cf53_6 : decode cJ9_min_7cf53 6 = .ok (.goto 4, 3) := by decide +kernel
theorem dJ9_min_7cf53_9 : decode cJ9_min_7cf53 9 = .ok (.iload_n 1, 1) := by decide +kernel
theorem dJ9_min_7cf53_10 : decode cJ9_min_7cf53 10 = .ok (.ireturn, 1) := by decide +kernel
theorem dJxa1e45_init_da8c8_0 : decode cJxa1e45_init_da8c8 0 = .ok (.aload_n 0, 1) := by decide +kernel
theorem dJxa1e45_init_da8c8_1 : decode cJxa1e45_init_da8c8 1 = .ok (.invokespecial 1, 3) := by decide +kernel
theorem dJxa1e45_init_da8c8_4 : decode cJxa1e45_init_da8c8 4 = .ok (.return_, 1) := by decide +kernel
theorem dJxc12de_init_da8c8_0 : decode cJxc12de_init_da8c8 0 = .ok (.aload_n 0, 1) := by decide +kernel
theorem dJxc12de_init_da8c8_1 : decode cJxc12de_init_da8c8 1 = .ok (.invokespecial 1, 3) := by decide +kernel
theorem dJxc12de_init_da8c8_4 : decode cJxc12de_init_da8c8 4 = .ok (.aload_n 0, 1) := by decide +kernel
theorem dJxc12de_init_da8c8_5 : decode cJxc12de_init_da8c8 5 = .ok (.iconst 0, 1) := by decide +kernel
theorem dJxc12de_init_da8c8_6 : decode cJxc12de_init_da8c8 6 = .ok (.putfield 7, 3) := by decide +kernel
theorem dJxc12de_init_da8c8_9 : decode cJxc12de_init_da8c8 9 = .ok (.return_, 1) := by decide +kernel
theorem dJx4a65c_init_da8c8_0 : decode cJx4a65c_init_da8c8 0 = .ok (.aload_n 0, 1) := by decide +kernel
theorem dJx4a65c_init_da8c8_1 : decode cJx4a65c_init_da8c8 1 = .ok (.invokespecial 1, 3) := by decide +kernel
theorem dJx4a65c_init_da8c8_4 : decode cJx4a65c_init_da8c8 4 = .ok (.aload_n 0, 1) := by decide +kernel
theorem dJx4a65c_init_da8c8_5 : decode cJx4a65c_init_da8c8 5 = .ok (.getstatic 39, 3) := by decide +kernel
theorem dJx4a65c_init_da8c8_8 : decode cJx4a65c_init_da8c8 8 = .ok (.putfield 9, 3) := by decide +kernel
theorem dJx4a65c_init_da8c8_11 : decode cJx4a65c_init_da8c8 11 = .ok (.return_, 1) := by decide +kernel
theorem dJx4a65c_grow_92f84_0 : decode cJx4a65c_grow_92f84 0 = .ok (.aload_n 0, 1) := by decide +kernel
theorem dJx4a65c_grow_92f84_1 : decode cJx4a65c_grow_92f84 1 = .ok (.getfield 9, 3) := by decide +kernel
theorem dJx4a65c_grow_92f84_4 : decode cJx4a65c_grow_92f84 4 = .ok (.arraylength, 1) := by decide +kernel
theorem dJx4a65c_grow_92f84_5 : decode cJx4a65c_grow_92f84 5 = .ok (.istore_n 2, 1) := by decide +kernel
theorem dJx4a65c_grow_92f84_6 : decode cJx4a65c_grow_92f84 6 = .ok (.iload_n 2, 1) := by decide +kernel
theorem dJx4a65c_grow_92f84_7 : decode cJx4a65c_grow_92f84 7 = .ok (.ifCond .gt 13, 3) := by decide +kernel
theorem dJx4a65c_grow_92f84_10 : decode cJx4a65c_grow_92f84 10 = .ok (.aload_n 0, 1) := by decide +kernel
theorem dJx4a65c_grow_92f84_11 : decode cJx4a65c_grow_92f84 11 = .ok (.getfield 9, 3) := by decide +kernel
theorem dJx4a65c_grow_92f84_14 : decode cJx4a65c_grow_92f84 14 = .ok (.getstatic 39, 3) := by decide +kernel
theorem dJx4a65c_grow_92f84_17 : decode cJx4a65c_grow_92f84 17 = .ok (.if_acmp .eq 28, 3) := by decide +kernel
theorem dJx4a65c_grow_92f84_20 : decode cJx4a65c_grow_92f84 20 = .ok (.iload_n 2, 1) := by decide +kernel
theorem dJx4a65c_grow_92f84_21 : decode cJx4a65c_grow_92f84 21 = .ok (.iload_n 1, 1) := by decide +kernel
theorem dJx4a65c_grow_92f84_22 : decode cJx4a65c_grow_92f84 22 = .ok (.iload_n 2, 1) := by decide +kernel
theorem dJx4a65c_grow_92f84_23 : decode cJx4a65c_grow_92f84 23 = .ok (.isub, 1) := by decide +kernel
theorem dJx4a65c_grow_92f84_24 : decode cJx4a65c_grow_92f84 24 = .ok (.iload_n 2, 1) := by decide +kernel
theorem dJx4a65c_grow_92f84_25 : decode cJx4a65c_grow_92f84 25 = .ok (.iconst 1, 1) := by decide +kernel
theorem dJx4a65c_grow_92f84_26 : decode cJx4a65c_grow_92f84 26 = .ok (.ishr, 1) := by decide +kernel
theorem dJx4a65c_grow_92f84_27 : decode cJx4a65c_grow_92f84 27 = .ok (.invokestatic 73, 3) := by decide +kernel
theorem dJx4a65c_grow_92f84_30 : decode cJx4a65c_grow_92f84 30 = .ok (.istore_n 3, 1) := by decide +kernel
theorem dJx4a65c_grow_92f84_31 : decode cJx4a65c_grow_92f84 31 = .ok (.aload_n 0, 1) := by decide +kernel
theorem dJx4a65c_grow_92f84_32 : decode cJx4a65c_grow_92f84 32 = .ok (.aload_n 0, 1) := by decide +kernel
theorem dJx4a65c_grow_92f84_33 : decode cJx4a65c_grow_92f84 33 = .ok (.getfield 9, 3) := by decide +kernel
theorem dJx4a65c_grow_92f84_36 : decode cJx4a65c_grow_92f84 36 = .ok (.iload_n 3, 1) := by decide +kernel
theorem dJx4a65c_grow_92f84_37 : decode cJx4a65c_grow_92f84 37 = .ok (.invokestatic 66, 3) := by decide +kernel
theorem dJx4a65c_grow_92f84_40 : decode cJx4a65c_grow_92f84 40 = .ok (.dup_x1, 1) := by decide +kernel
theorem dJx4a65c_grow_92f84_41 : decode cJx4a65c_grow_92f84 41 = .ok (.putfield 9, 3) := by decide +kernel
theorem dJx4a65c_grow_92f84_44 : decode cJx4a65c_grow_92f84 44 = .ok (.areturn, 1) := by decide +kernel
theorem dJx4a65c_grow_92f84_45 : decode cJx4a65c_grow_92f84 45 = .ok (.aload_n 0, 1) := by decide +kernel
theorem dJx4a65c_grow_92f84_46 : decode cJx4a65c_grow_92f84 46 = .ok (.bipush 10, 2) := by decide +kernel
theorem dJx4a65c_grow_92f84_48 : decode cJx4a65c_grow_92f84 48 = .ok (.iload_n 1, 1) := by decide +kernel
theorem dJx4a65c_grow_92f84_49 : decode cJx4a65c_grow_92f84 49 = .ok (.invokestatic 79, 3) := by decide +kernel
theorem dJx4a65c_grow_92f84_52 : decode cJx4a65c_grow_92f84 52 = .ok (.anewarray 7, 3) := by decide +kernel
theorem dJx4a65c_grow_92f84_55 : decode cJx4a65c_grow_92f84 55 = .ok (.dup_x1, 1) := by decide +kernel
theorem dJx4a65c_grow_92f84_56 : decode cJx4a65c_grow_92f84 56 = .ok (.putfield 9, 3) := by decide +kernel
theorem dJx4a65c_grow_92f84_59 : decode cJx4a65c_grow_92f84 59 = .ok (.areturn, 1) := by decide +kernel
theorem dJx4a65c_grow_d5877_0 : decode cJx4a65c_grow_d5877 0 = .ok (.aload_n 0, 1) := by decide +kernel
theorem dJx4a65c_grow_d5877_1 : decode cJx4a65c_grow_d5877 1 = .ok (.aload_n 0, 1) := by decide +kernel
theorem dJx4a65c_grow_d5877_2 : decode cJx4a65c_grow_d5877 2 = .ok (.getfield 48, 3) := by decide +kernel
theorem dJx4a65c_grow_d5877_5 : decode cJx4a65c_grow_d5877 5 = .ok (.iconst 1, 1) := by decide +kernel
theorem dJx4a65c_grow_d5877_6 : decode cJx4a65c_grow_d5877 6 = .ok (.iadd, 1) := by decide +kernel
theorem dJx4a65c_grow_d5877_7 : decode cJx4a65c_grow_d5877 7 = .ok (.invokevirtual 69, 3) := by decide +kernel
theorem dJx4a65c_grow_d5877_10 : decode cJx4a65c_grow_d5877 10 = .ok (.areturn, 1) := by decide +kernel
theorem dJx4a65c_size_8abf5_0 : decode cJx4a65c_size_8abf5 0 = .ok (.aload_n 0, 1) := by decide +kernel
theorem dJx4a65c_size_8abf5_1 : decode cJx4a65c_size_8abf5 1 = .ok (.getfield 48, 3) := by decide +kernel
theorem dJx4a65c_size_8abf5_4 : decode cJx4a65c_size_8abf5 4 = .ok (.ireturn, 1) := by decide +kernel
theorem dJx4a65c_elementData_915e3_0 : decode cJx4a65c_elementData_915e3 0 = .ok (.aload_n 0, 1) := by decide +kernel
theorem dJx4a65c_elementData_915e3_1 : decode cJx4a65c_elementData_915e3 1 = .ok (.getfield 9, 3) := by decide +kernel
theorem dJx4a65c_elementData_915e3_4 : decode cJx4a65c_elementData_915e3 4 = .ok (.iload_n 1, 1) := by decide +kernel
theorem dJx4a65c_elementData_915e3_5 : decode cJx4a65c_elementData_915e3 5 = .ok (.aaload, 1) := by decide +kernel
theorem dJx4a65c_elementData_915e3_6 : decode cJx4a65c_elementData_915e3 6 = .ok (.areturn, 1) := by decide +kernel
theorem dJx4a65c_get_915e3_0 : decode cJx4a65c_get_915e3 0 = .ok (.iload_n 1, 1) := by decide +kernel
theorem dJx4a65c_get_915e3_1 : decode cJx4a65c_get_915e3 1 = .ok (.aload_n 0, 1) := by decide +kernel
theorem dJx4a65c_get_915e3_2 : decode cJx4a65c_get_915e3 2 = .ok (.getfield 48, 3) := by decide +kernel
theorem dJx4a65c_get_915e3_5 : decode cJx4a65c_get_915e3 5 = .ok (.invokestatic 118, 3) := by decide +kernel
theorem dJx4a65c_get_915e3_8 : decode cJx4a65c_get_915e3 8 = .ok (.pop, 1) := by decide +kernel
theorem dJx4a65c_get_915e3_9 : decode cJx4a65c_get_915e3 9 = .ok (.aload_n 0, 1) := by decide +kernel
theorem dJx4a65c_get_915e3_10 : decode cJx4a65c_get_915e3 10 = .ok (.iload_n 1, 1) := by decide +kernel
theorem dJx4a65c_get_915e3_11 : decode cJx4a65c_get_915e3 11 = .ok (.invokevirtual 123, 3) := by decide +kernel
theorem dJx4a65c_get_915e3_14 : decode cJx4a65c_get_915e3 14 = .ok (.areturn, 1) := by decide +kernel
theorem dJx4a65c_add_72be8_0 : decode cJx4a65c_add_72be8 0 = .ok (.iload_n 3, 1) := by decide +kernel
theorem dJx4a65c_add_72be8_1 : decode cJx4a65c_add_72be8 1 = .ok (.aload_n 2, 1) := by decide +kernel
theorem dJx4a65c_add_72be8_2 : decode cJx4a65c_add_72be8 2 = .ok (.arraylength, 1) := by decide +kernel
theorem dJx4a65c_add_72be8_3 : decode cJx4a65c_add_72be8 3 = .ok (.if_icmp .ne 8, 3) := by decide +kernel
theorem dJx4a65c_add_72be8_6 : decode cJx4a65c_add_72be8 6 = .ok (.aload_n 0, 1) := by decide +kernel
theorem dJx4a65c_add_72be8_7 : decode cJx4a65c_add_72be8 7 = .ok (.invokevirtual 129, 3) := by decide +kernel
theorem dJx4a65c_add_72be8_10 : decode cJx4a65c_add_72be8 10 = .ok (.astore_n 2, 1) := by decide +kernel
theorem dJx4a65c_add_72be8_11 : decode cJx4a65c_add_72be8 11 = .ok (.aload_n 2, 1) := by decide +kernel
theorem dJx4a65c_add_72be8_12 : decode cJx4a65c_add_72be8 12 = .ok (.iload_n 3, 1) := by decide +kernel
theorem dJx4a65c_add_72be8_13 : decode cJx4a65c_add_72be8 13 = .ok (.aload_n 1, 1) := by decide +kernel
theorem dJx4a65c_add_72be8_14 : decode cJx4a65c_add_72be8 14 = .ok (.aastore, 1) := by decide +kernel
theorem dJx4a65c_add_72be8_15 : decode cJx4a65c_add_72be8 15 = .ok (.aload_n 0, 1) := by decide +kernel
theorem dJx4a65c_add_72be8_16 : decode cJx4a65c_add_72be8 16 = .ok (.iload_n 3, 1) := by decide +kernel
theorem dJx4a65c_add_72be8_17 : decode cJx4a65c_add_72be8 17 = .ok (.iconst 1, 1) := by decide +kernel
theorem dJx4a65c_add_72be8_18 : decode cJx4a65c_add_72be8 18 = .ok (.iadd, 1) := by decide +kernel
theorem dJx4a65c_add_72be8_19 : decode cJx4a65c_add_72be8 19 = .ok (.putfield 48, 3) := by decide +kernel
theorem dJx4a65c_add_72be8_22 : decode cJx4a65c_add_72be8 22 = .ok (.return_, 1) := by decide +kernel
theorem dJx4a65c_add_9ea2d_0 : decode cJx4a65c_add_9ea2d 0 = .ok (.aload_n 0, 1) := by decide +kernel
theorem dJx4a65c_add_9ea2d_1 : decode cJx4a65c_add_9ea2d 1 = .ok (.dup, 1) := by decide +kernel
theorem dJx4a65c_add_9ea2d_2 : decode cJx4a65c_add_9ea2d 2 = .ok (.getfield 63, 3) := by decide +kernel
theorem dJx4a65c_add_9ea2d_5 : decode cJx4a65c_add_9ea2d 5 = .ok (.iconst 1, 1) := by decide +kernel
theorem dJx4a65c_add_9ea2d_6 : decode cJx4a65c_add_9ea2d 6 = .ok (.iadd, 1) := by decide +kernel
theorem dJx4a65c_add_9ea2d_7 : decode cJx4a65c_add_9ea2d 7 = .ok (.putfield 63, 3) := by decide +kernel
theorem dJx4a65c_add_9ea2d_10 : decode cJx4a65c_add_9ea2d 10 = .ok (.aload_n 0, 1) := by decide +kernel
theorem dJx4a65c_add_9ea2d_11 : decode cJx4a65c_add_9ea2d 11 = .ok (.aload_n 1, 1) := by decide +kernel
theorem dJx4a65c_add_9ea2d_12 : decode cJx4a65c_add_9ea2d 12 = .ok (.aload_n 0, 1) := by decide +kernel
theorem dJx4a65c_add_9ea2d_13 : decode cJx4a65c_add_9ea2d 13 = .ok (.getfield 9, 3) := by decide +kernel
theorem dJx4a65c_add_9ea2d_16 : decode cJx4a65c_add_9ea2d 16 = .ok (.aload_n 0, 1) := by decide +kernel
theorem dJx4a65c_add_9ea2d_17 : decode cJx4a65c_add_9ea2d 17 = .ok (.getfield 48, 3) := by decide +kernel
theorem dJx4a65c_add_9ea2d_20 : decode cJx4a65c_add_9ea2d 20 = .ok (.invokevirtual 131, 3) := by decide +kernel
theorem dJx4a65c_add_9ea2d_23 : decode cJx4a65c_add_9ea2d 23 = .ok (.iconst 1, 1) := by decide +kernel
theorem dJx4a65c_add_9ea2d_24 : decode cJx4a65c_add_9ea2d 24 = .ok (.ireturn, 1) := by decide +kernel
theorem dJ7_fill_53178_0 : decode cJ7_fill_53178 0 = .ok (.iconst 0, 1) := by decide +kernel
theorem dJ7_fill_53178_1 : decode cJ7_fill_53178 1 = .ok (.istore_n 2, 1) := by decide +kernel
theorem dJ7_fill_53178_2 : decode cJ7_fill_53178 2 = .ok (.aload_n 0, 1) := by decide +kernel
theorem dJ7_fill_53178_3 : decode cJ7_fill_53178 3 = .ok (.arraylength, 1) := by decide +kernel
theorem dJ7_fill_53178_4 : decode cJ7_fill_53178 4 = .ok (.istore_n 3, 1) := by decide +kernel
theorem dJ7_fill_53178_5 : decode cJ7_fill_53178 5 = .ok (.iload_n 2, 1) := by decide +kernel
theorem dJ7_fill_53178_6 : decode cJ7_fill_53178 6 = .ok (.iload_n 3, 1) := by decide +kernel
theorem dJ7_fill_53178_7 : decode cJ7_fill_53178 7 = .ok (.if_icmp .ge 13, 3) := by decide +kernel
theorem dJ7_fill_53178_10 : decode cJ7_fill_53178 10 = .ok (.aload_n 0, 1) := by decide +kernel
theorem dJ7_fill_53178_11 : decode cJ7_fill_53178 11 = .ok (.iload_n 2, 1) := by decide +kernel
theorem dJ7_fill_53178_12 : decode cJ7_fill_53178 12 = .ok (.iload_n 1, 1) := by decide +kernel
theorem dJ7_fill_53178_13 : decode cJ7_fill_53178 13 = .ok (.iastore, 1) := by decide +kernel
theorem dJ7_fill_53178_14 : decode cJ7_fill_53178 14 = .ok (.iinc 2 1, 3) := by decide +kernel
theorem dJ7_fill_53178_17 : decode cJ7_fill_53178 17 = .ok (.goto (-12), 3) := by decide +kernel
theorem dJ7_fill_53178_20 : decode cJ7_fill_53178 20 = .ok (.return_, 1) := by decide +kernel
theorem dJ7_copyOf_1904c_0 : decode cJ7_copyOf_1904c 0 = .ok (.aload_n 0, 1) := by decide +kernel
theorem dJ7_copyOf_1904c_1 : decode cJ7_copyOf_1904c 1 = .ok (.iload_n 1, 1) := by decide +kernel
theorem dJ7_copyOf_1904c_2 : decode cJ7_copyOf_1904c 2 = .ok (.aload_n 0, 1) := by decide +kernel
theorem dJ7_copyOf_1904c_3 : decode cJ7_copyOf_1904c 3 = .ok (.invokevirtual 86, 3) := by decide +kernel
theorem dJ7_copyOf_1904c_6 : decode cJ7_copyOf_1904c 6 = .ok (.invokestatic 300, 3) := by decide +kernel
theorem dJ7_copyOf_1904c_9 : decode cJ7_copyOf_1904c 9 = .ok (.areturn, 1) := by decide +kernel
theorem dJ7_copyOf_6403c_0 : decode cJ7_copyOf_6403c 0 = .ok (.aload_n 2, 1) := by decide +kernel
theorem dJ7_copyOf_6403c_1 : decode cJ7_copyOf_6403c 1 = .ok (.ldc 110, 2) := by decide +kernel
theorem dJ7_copyOf_6403c_3 : decode cJ7_copyOf_6403c 3 = .ok (.if_acmp .ne 10, 3) := by decide +kernel
theorem dJ7_copyOf_6403c_6 : decode cJ7_copyOf_6403c 6 = .ok (.iload_n 1, 1) := by decide +kernel
theorem dJ7_copyOf_6403c_7 : decode cJ7_copyOf_6403c 7 = .ok (.anewarray 2, 3) := by decide +kernel
theorem dJ7_copyOf_6403c_10 : decode cJ7_copyOf_6403c 10 = .ok (.goto 14, 3) := by decide +kernel
theorem dJ7_copyOf_6403c_13 : decode cJ7_copyOf_6403c 13 = .ok (.aload_n 2, 1) := by decide +kernel
theorem dJ7_copyOf_6403c_14 : decode cJ7_copyOf_6403c 14 = .ok (.invokevirtual 90, 3) := by decide +kernel
theorem dJ7_copyOf_6403c_17 : decode cJ7_copyOf_6403c 17 = .ok (.iload_n 1, 1) := by decide +kernel
theorem dJ7_copyOf_6403c_18 : decode cJ7_copyOf_6403c 18 = .ok (.invokestatic 95, 3) := by decide +kernel
theorem dJ7_copyOf_6403c_21 : decode cJ7_copyOf_6403c 21 = .ok (.checkcast 110, 3) := by decide +kernel
theorem dJ7_copyOf_6403c_24 : decode cJ7_copyOf_6403c 24 = .ok (.astore_n 3, 1) := by decide +kernel
theorem dJ7_copyOf_6403c_25 : decode cJ7_copyOf_6403c 25 = .ok (.aload_n 0, 1) := by decide +kernel
theorem dJ7_copyOf_6403c_26 : decode cJ7_copyOf_6403c 26 = .ok (.iconst 0, 1) := by decide +kernel
theorem dJ7_copyOf_6403c_27 : decode cJ7_copyOf_6403c 27 = .ok (.aload_n 3, 1) := by decide +kernel
theorem dJ7_copyOf_6403c_28 : decode cJ7_copyOf_6403c 28 = .ok (.iconst 0, 1) := by decide +kernel
theorem dJ7_copyOf_6403c_29 : decode cJ7_copyOf_6403c 29 = .ok (.aload_n 0, 1) := by decide +kernel
theorem dJ7_copyOf_6403c_30 : decode cJ7_copyOf_6403c 30 = .ok (.arraylength, 1) := by decide +kernel
theorem dJ7_copyOf_6403c_31 : decode cJ7_copyOf_6403c 31 = .ok (.iload_n 1, 1) := by decide +kernel
theorem dJ7_copyOf_6403c_32 : decode cJ7_copyOf_6403c 32 = .ok (.invokestatic 304, 3) := by decide +kernel
theorem dJ7_copyOf_6403c_35 : decode cJ7_copyOf_6403c 35 = .ok (.invokestatic 150, 3) := by decide +kernel
theorem dJ7_copyOf_6403c_38 : decode cJ7_copyOf_6403c 38 = .ok (.aload_n 3, 1) := by decide +kernel
theorem dJ7_copyOf_6403c_39 : decode cJ7_copyOf_6403c 39 = .ok (.areturn, 1) := by decide +kernel
theorem dJ15_checkIndex_7cf53_0 : decode cJ15_checkIndex_7cf53 0 = .ok (.iload_n 0, 1) := by decide +kernel
theorem dJ15_checkIndex_7cf53_1 : decode cJ15_checkIndex_7cf53 1 = .ok (.iload_n 1, 1) := by decide +kernel
theorem dJ15_checkIndex_7cf53_2 : decode cJ15_checkIndex_7cf53 2 = .ok (.aconst_null, 1) := by decide +kernel
theorem dJ15_checkIndex_7cf53_3 : decode cJ15_checkIndex_7cf53 3 = .ok (.invokestatic 105, 3) := by decide +kernel
theorem dJ15_checkIndex_7cf53_6 : decode cJ15_checkIndex_7cf53 6 = .ok (.ireturn, 1) := by decide +kernel
theorem dJ8_newLength_cabcc_0 : decode cJ8_newLength_cabcc 0 = .ok (.iload_n 0, 1) := by decide +kernel
theorem dJ8_newLength_cabcc_1 : decode cJ8_newLength_cabcc 1 = .ok (.iload_n 1, 1) := by decide +kernel
theorem dJ8_newLength_cabcc_2 : decode cJ8_newLength_cabcc 2 = .ok (.iload_n 2, 1) := by decide +kernel
theorem dJ8_newLength_cabcc_3 : decode cJ8_newLength_cabcc 3 = .ok (.invokestatic 194, 3) := by decide +kernel
theorem dJ8_newLength_cabcc_6 : decode cJ8_newLength_cabcc 6 = .ok (.iadd, 1) := by decide +kernel
theorem dJ8_newLength_cabcc_7 : decode cJ8_newLength_cabcc 7 = .ok (.istore_n 3, 1) := by decide +kernel
theorem dJ8_newLength_cabcc_8 : decode cJ8_newLength_cabcc 8 = .ok (.iconst 0, 1) := by decide +kernel
theorem dJ8_newLength_cabcc_9 : decode cJ8_newLength_cabcc 9 = .ok (.iload_n 3, 1) := by decide +kernel
theorem dJ8_newLength_cabcc_10 : decode cJ8_newLength_cabcc 10 = .ok (.if_icmp .ge 11, 3) := by decide +kernel
theorem dJ8_newLength_cabcc_13 : decode cJ8_newLength_cabcc 13 = .ok (.iload_n 3, 1) := by decide +kernel
theorem dJ8_newLength_cabcc_14 : decode cJ8_newLength_cabcc 14 = .ok (.ldc 200, 2) := by decide +kernel
theorem dJ8_newLength_cabcc_16 : decode cJ8_newLength_cabcc 16 = .ok (.if_icmp .gt 5, 3) := by decide +kernel
theorem dJ8_newLength_cabcc_19 : decode cJ8_newLength_cabcc 19 = .ok (.iload_n 3, 1) := by decide +kernel
theorem dJ8_newLength_cabcc_20 : decode cJ8_newLength_cabcc 20 = .ok (.ireturn, 1) := by decide +kernel
theorem dJ8_newLength_cabcc_21 : decode cJ8_newLength_cabcc 21 = .ok (.iload_n 0, 1) := by decide +kernel
theorem dJ8_newLength_cabcc_22 : decode cJ8_newLength_cabcc 22 = .ok (.iload_n 1, 1) := by decide +kernel
theorem dJ8_newLength_cabcc_23 : decode cJ8_newLength_cabcc 23 = .ok (.invokestatic 201, 3) := by decide +kernel
theorem dJ8_newLength_cabcc_26 : decode cJ8_newLength_cabcc 26 = .ok (.ireturn, 1) := by decide +kernel
theorem dJ8_hugeLength_7cf53_0 : decode cJ8_hugeLength_7cf53 0 = .ok (.iload_n 0, 1) := by decide +kernel
theorem dJ8_hugeLength_7cf53_1 : decode cJ8_hugeLength_7cf53 1 = .ok (.iload_n 1, 1) := by decide +kernel
theorem dJ8_hugeLength_7cf53_2 : decode cJ8_hugeLength_7cf53 2 = .ok (.iadd, 1) := by decide +kernel
theorem dJ8_hugeLength_7cf53_3 : decode cJ8_hugeLength_7cf53 3 = .ok (.istore_n 2, 1) := by decide +kernel
theorem dJ8_hugeLength_7cf53_4 : decode cJ8_hugeLength_7cf53 4 = .ok (.iload_n 2, 1) := by decide +kernel
theorem dJ8_hugeLength_7cf53_5 : decode cJ8_hugeLength_7cf53 5 = .ok (.ifCond .ge 44, 3) := by decide +kernel
theorem dJ8_hugeLength_7cf53_8 : decode cJ8_hugeLength_7cf53 8 = .ok (.new 204, 3) := by decide +kernel
theorem dJ8_hugeLength_7cf53_11 : decode cJ8_hugeLength_7cf53 11 = .ok (.dup, 1) := by decide +kernel
theorem dJ8_hugeLength_7cf53_12 : decode cJ8_hugeLength_7cf53 12 = .ok (.new 89, 3) := by decide +kernel
theorem dJ8_hugeLength_7cf53_15 : decode cJ8_hugeLength_7cf53 15 = .ok (.dup, 1) := by decide +kernel
theorem dJ8_hugeLength_7cf53_16 : decode cJ8_hugeLength_7cf53 16 = .ok (.invokespecial 91, 3) := by decide +kernel
theorem dJ8_hugeLength_7cf53_19 : decode cJ8_hugeLength_7cf53 19 = .ok (.ldc 206, 2) := by decide +kernel
theorem dJ8_hugeLength_7cf53_21 : decode cJ8_hugeLength_7cf53 21 = .ok (.invokevirtual 94, 3) := by decide +kernel
theorem dJ8_hugeLength_7cf53_24 : decode cJ8_hugeLength_7cf53 24 = .ok (.iload_n 0, 1) := by decide +kernel
theorem dJ8_hugeLength_7cf53_25 : decode cJ8_hugeLength_7cf53 25 = .ok (.invokevirtual 98, 3) := by decide +kernel
theorem dJ8_hugeLength_7cf53_28 : decode cJ8_hugeLength_7cf53 28 = .ok (.ldc 208, 2) := by decide +kernel
theorem dJ8_hugeLength_7cf53_30 : decode cJ8_hugeLength_7cf53 30 = .ok (.invokevirtual 94, 3) := by decide +kernel
theorem dJ8_hugeLength_7cf53_33 : decode cJ8_hugeLength_7cf53 33 = .ok (.iload_n 1, 1) := by decide +kernel
theorem dJ8_hugeLength_7cf53_34 : decode cJ8_hugeLength_7cf53 34 = .ok (.invokevirtual 98, 3) := by decide +kernel
theorem dJ8_hugeLength_7cf53_37 : decode cJ8_hugeLength_7cf53 37 = .ok (.ldc 210, 2) := by decide +kernel
theorem dJ8_hugeLength_7cf53_39 : decode cJ8_hugeLength_7cf53 39 = .ok (.invokevirtual 94, 3) := by decide +kernel
theorem dJ8_hugeLength_7cf53_42 : decode cJ8_hugeLength_7cf53 42 = .ok (.invokevirtual 101, 3) := by decide +kernel
theorem dJ8_hugeLength_7cf53_45 : decode cJ8_hugeLength_7cf53 45 = .ok (.invokespecial 212, 3) := by decide +kernel
theorem dJ8_hugeLength_7cf53_48 : decode cJ8_hugeLength_7cf53 48 = .ok (.athrow, 1) := by decide +kernel
theorem dJ8_hugeLength_7cf53_49 : decode cJ8_hugeLength_7cf53 49 = .ok (.iload_n 2, 1) := by decide +kernel
theorem dJ8_hugeLength_7cf53_50 : decode cJ8_hugeLength_7cf53 50 = .ok (.ldc 200, 2) := by decide +kernel
theorem dJ8_hugeLength_7cf53_52 : decode cJ8_hugeLength_7cf53 52 = .ok (.if_icmp .gt 6, 3) := by decide +kernel
theorem dJ8_hugeLength_7cf53_55 : decode cJ8_hugeLength_7cf53 55 = .ok (.ldc 200, 2) := by decide +kernel
theorem dJ8_hugeLength_7cf53_57 : decode cJ8_hugeLength_7cf53 57 = .ok (.ireturn, 1) := by decide +kernel
theorem dJ8_hugeLength_7cf53_58 : decode cJ8_hugeLength_7cf53 58 = .ok (.iload_n 2, 1) := by decide +kernel
theorem dJ8_hugeLength_7cf53_59 : decode cJ8_hugeLength_7cf53 59 = .ok (.ireturn, 1) := by decide +kernel
theorem dJ3_checkIndex_8e157_0 : decode cJ3_checkIndex_8e157 0 = .ok (.iload_n 0, 1) := by decide +kernel
theorem dJ3_checkIndex_8e157_1 : decode cJ3_checkIndex_8e157 1 = .ok (.ifCond .lt 8, 3) := by decide +kernel
theorem dJ3_checkIndex_8e157_4 : decode cJ3_checkIndex_8e157 4 = .ok (.iload_n 0, 1) := by decide +kernel
theorem dJ3_checkIndex_8e157_5 : decode cJ3_checkIndex_8e157 5 = .ok (.iload_n 1, 1) := by decide +kernel
theorem dJ3_checkIndex_8e157_6 : decode cJ3_checkIndex_8e157 6 = .ok (.if_icmp .lt 10, 3) := by decide +kernel
theorem dJ3_checkIndex_8e157_9 : decode cJ3_checkIndex_8e157 9 = .ok (.aload_n 2, 1) := by decide +kernel
theorem dJ3_checkIndex_8e157_10 : decode cJ3_checkIndex_8e157 10 = .ok (.iload_n 0, 1) := by decide +kernel
theorem dJ3_checkIndex_8e157_11 : decode cJ3_checkIndex_8e157 11 = .ok (.iload_n 1, 1) := by decide +kernel
theorem dJ3_checkIndex_8e157_12 : decode cJ3_checkIndex_8e157 12 = .ok (.invokestatic 95, 3) := by decide +kernel
theorem dJ3_checkIndex_8e157_15 : decode cJ3_checkIndex_8e157 15 = .ok (.athrow, 1) := by decide +kernel
theorem dJ3_checkIndex_8e157_16 : decode cJ3_checkIndex_8e157 16 = .ok (.iload_n 0, 1) := by decide +kernel
theorem dJ3_checkIndex_8e157_17 : decode cJ3_checkIndex_8e157 17 = .ok (.ireturn, 1) := by decide +kernel
theorem dL_cell_0 : decode cL_cell 0 = .ok (.iload_n 1, 1) := by decide +kernel
theorem dL_cell_1 : decode cL_cell 1 = .ok (.aload_n 0, 1) := by decide +kernel
theorem dL_cell_2 : decode cL_cell 2 = .ok (.arraylength, 1) := by decide +kernel
theorem dL_cell_3 : decode cL_cell 3 = .ok (.if_icmp .ge 9, 3) := by decide +kernel
theorem dL_cell_6 : decode cL_cell 6 = .ok (.aload_n 0, 1) := by decide +kernel
theorem dL_cell_7 : decode cL_cell 7 = .ok (.iload_n 1, 1) := by decide +kernel
theorem dL_cell_8 : decode cL_cell 8 = .ok (.iaload, 1) := by decide +kernel
theorem dL_cell_9 : decode cL_cell 9 = .ok (.goto 10, 3) := by decide +kernel
theorem dL_cell_12 : decode cL_cell 12 = .ok (.ldc 7, 2) := by decide +kernel
theorem dL_cell_14 : decode cL_cell 14 = .ok (.iload_n 1, 1) := by decide +kernel
theorem dL_cell_15 : decode cL_cell 15 = .ok (.bipush 6, 2) := by decide +kernel
theorem dL_cell_17 : decode cL_cell 17 = .ok (.iadd, 1) := by decide +kernel
theorem dL_cell_18 : decode cL_cell 18 = .ok (.imul, 1) := by decide +kernel
theorem dL_cell_19 : decode cL_cell 19 = .ok (.ireturn, 1) := by decide +kernel
theorem dL_low_0 : decode cL_low 0 = .ok (.iload_n 0, 1) := by decide +kernel
theorem dL_low_1 : decode cL_low 1 = .ok (.iconst 1, 1) := by decide +kernel
theorem dL_low_2 : decode cL_low 2 = .ok (.iushr, 1) := by decide +kernel
theorem dL_low_3 : decode cL_low 3 = .ok (.iload_n 1, 1) := by decide +kernel
theorem dL_low_4 : decode cL_low 4 = .ok (.irem, 1) := by decide +kernel
theorem dL_low_5 : decode cL_low 5 = .ok (.ireturn, 1) := by decide +kernel
theorem dL_pass_0 : decode cL_pass 0 = .ok (.aload_n 0, 1) := by decide +kernel
theorem dL_pass_1 : decode cL_pass 1 = .ok (.iload_n 1, 1) := by decide +kernel
theorem dL_pass_2 : decode cL_pass 2 = .ok (.invokevirtual 8, 3) := by decide +kernel
theorem dL_pass_5 : decode cL_pass 5 = .ok (.istore_n 2, 1) := by decide +kernel
theorem dL_pass_6 : decode cL_pass 6 = .ok (.goto 11, 3) := by decide +kernel
theorem dL_pass_9 : decode cL_pass 9 = .ok (.astore_n 3, 1) := by decide +kernel
theorem dL_pass_10 : decode cL_pass 10 = .ok (.bipush (-71), 2) := by decide +kernel
theorem dL_pass_12 : decode cL_pass 12 = .ok (.ireturn, 1) := by decide +kernel
theorem dL_pass_13 : decode cL_pass 13 = .ok (.astore_n 3, 1) := by decide +kernel
theorem dL_pass_14 : decode cL_pass 14 = .ok (.bipush (-72), 2) := by decide +kernel
theorem dL_pass_16 : decode cL_pass 16 = .ok (.ireturn, 1) := by decide +kernel
theorem dL_pass_17 : decode cL_pass 17 = .ok (.iload_n 2, 1) := by decide +kernel
theorem dL_pass_18 : decode cL_pass 18 = .ok (.ireturn, 1) := by decide +kernel
theorem dL_format_0 : decode cL_format 0 = .ok (.aload_n 0, 1) := by decide +kernel
theorem dL_format_1 : decode cL_format 1 = .ok (.iload_n 1, 1) := by decide +kernel
theorem dL_format_2 : decode cL_format 2 = .ok (.iload_n 2, 1) := by decide +kernel
theorem dL_format_3 : decode cL_format 3 = .ok (.iload_n 3, 1) := by decide +kernel
theorem dL_format_4 : decode cL_format 4 = .ok (.invokevirtual 18, 3) := by decide +kernel
theorem dL_format_7 : decode cL_format 7 = .ok (.istore 4, 2) := by decide +kernel
theorem dL_format_9 : decode cL_format 9 = .ok (.goto 13, 3) := by decide +kernel
theorem dL_format_12 : decode cL_format 12 = .ok (.astore 5, 2) := by decide +kernel
theorem dL_format_14 : decode cL_format 14 = .ok (.bipush (-71), 2) := by decide +kernel
theorem dL_format_16 : decode cL_format 16 = .ok (.ireturn, 1) := by decide +kernel
theorem dL_format_17 : decode cL_format 17 = .ok (.astore 5, 2) := by decide +kernel
theorem dL_format_19 : decode cL_format 19 = .ok (.bipush (-72), 2) := by decide +kernel
theorem dL_format_21 : decode cL_format 21 = .ok (.ireturn, 1) := by decide +kernel
theorem dL_format_22 : decode cL_format 22 = .ok (.iload 4, 2) := by decide +kernel
theorem dL_format_24 : decode cL_format 24 = .ok (.ireturn, 1) := by decide +kernel
theorem dL_line_0 : decode cL_line 0 = .ok (.aload_n 0, 1) := by decide +kernel
theorem dL_line_1 : decode cL_line 1 = .ok (.iload_n 1, 1) := by decide +kernel
theorem dL_line_2 : decode cL_line 2 = .ok (.invokevirtual 22, 3) := by decide +kernel
theorem dL_line_5 : decode cL_line 5 = .ok (.istore_n 2, 1) := by decide +kernel
theorem dL_line_6 : decode cL_line 6 = .ok (.goto 11, 3) := by decide +kernel
theorem dL_line_9 : decode cL_line 9 = .ok (.astore_n 3, 1) := by decide +kernel
theorem dL_line_10 : decode cL_line 10 = .ok (.bipush (-71), 2) := by decide +kernel
theorem dL_line_12 : decode cL_line 12 = .ok (.ireturn, 1) := by decide +kernel
theorem dL_line_13 : decode cL_line 13 = .ok (.astore_n 3, 1) := by decide +kernel
theorem dL_line_14 : decode cL_line 14 = .ok (.bipush (-72), 2) := by decide +kernel
theorem dL_line_16 : decode cL_line 16 = .ok (.ireturn, 1) := by decide +kernel
theorem dL_line_17 : decode cL_line 17 = .ok (.iload_n 2, 1) := by decide +kernel
theorem dL_line_18 : decode cL_line 18 = .ok (.ireturn, 1) := by decide +kernel
theorem dL_end_0 : decode cL_end 0 = .ok (.aload_n 0, 1) := by decide +kernel
theorem dL_end_1 : decode cL_end 1 = .ok (.invokevirtual 25, 3) := by decide +kernel
theorem dL_end_4 : decode cL_end 4 = .ok (.istore_n 1, 1) := by decide +kernel
theorem dL_end_5 : decode cL_end 5 = .ok (.goto 7, 3) := by decide +kernel
theorem dL_end_8 : decode cL_end 8 = .ok (.astore_n 2, 1) := by decide +kernel
theorem dL_end_9 : decode cL_end 9 = .ok (.bipush (-72), 2) := by decide +kernel
theorem dL_end_11 : decode cL_end 11 = .ok (.ireturn, 1) := by decide +kernel
theorem dL_end_12 : decode cL_end 12 = .ok (.iload_n 1, 1) := by decide +kernel
theorem dL_end_13 : decode cL_end 13 = .ok (.ireturn, 1) := by decide +kernel
theorem dL_pages_0 : decode cL_pages 0 = .ok (.aload_n 0, 1) := by decide +kernel
theorem dL_pages_1 : decode cL_pages 1 = .ok (.iload_n 1, 1) := by decide +kernel
theorem dL_pages_2 : decode cL_pages 2 = .ok (.invokevirtual 29, 3) := by decide +kernel
theorem dL_pages_5 : decode cL_pages 5 = .ok (.istore_n 2, 1) := by decide +kernel
theorem dL_pages_6 : decode cL_pages 6 = .ok (.goto 7, 3) := by decide +kernel
theorem dL_pages_9 : decode cL_pages 9 = .ok (.astore_n 3, 1) := by decide +kernel
theorem dL_pages_10 : decode cL_pages 10 = .ok (.bipush (-73), 2) := by decide +kernel
theorem dL_pages_12 : decode cL_pages 12 = .ok (.ireturn, 1) := by decide +kernel
theorem dL_pages_13 : decode cL_pages 13 = .ok (.iload_n 2, 1) := by decide +kernel
theorem dL_pages_14 : decode cL_pages 14 = .ok (.ireturn, 1) := by decide +kernel
theorem dL_twice_0 : decode cL_twice 0 = .ok (.aload_n 0, 1) := by decide +kernel
theorem dL_twice_1 : decode cL_twice 1 = .ok (.iload_n 1, 1) := by decide +kernel
theorem dL_twice_2 : decode cL_twice 2 = .ok (.invokevirtual 34, 3) := by decide +kernel
theorem dL_twice_5 : decode cL_twice 5 = .ok (.istore_n 2, 1) := by decide +kernel
theorem dL_twice_6 : decode cL_twice 6 = .ok (.goto 7, 3) := by decide +kernel
theorem dL_twice_9 : decode cL_twice 9 = .ok (.astore_n 3, 1) := by decide +kernel
theorem dL_twice_10 : decode cL_twice 10 = .ok (.bipush (-73), 2) := by decide +kernel
theorem dL_twice_12 : decode cL_twice 12 = .ok (.ireturn, 1) := by decide +kernel
theorem dL_twice_13 : decode cL_twice 13 = .ok (.iload_n 2, 1) := by decide +kernel
theorem dL_twice_14 : decode cL_twice 14 = .ok (.ireturn, 1) := by decide +kernel
theorem dL_reprint_0 : decode cL_reprint 0 = .ok (.aload_n 0, 1) := by decide +kernel
theorem dL_reprint_1 : decode cL_reprint 1 = .ok (.iload_n 1, 1) := by decide +kernel
theorem dL_reprint_2 : decode cL_reprint 2 = .ok (.iload_n 2, 1) := by decide +kernel
theorem dL_reprint_3 : decode cL_reprint 3 = .ok (.iload_n 3, 1) := by decide +kernel
theorem dL_reprint_4 : decode cL_reprint 4 = .ok (.invokevirtual 37, 3) := by decide +kernel
theorem dL_reprint_7 : decode cL_reprint 7 = .ok (.istore 4, 2) := by decide +kernel
theorem dL_reprint_9 : decode cL_reprint 9 = .ok (.goto 13, 3) := by decide +kernel
theorem dL_reprint_12 : decode cL_reprint 12 = .ok (.astore 5, 2) := by decide +kernel
theorem dL_reprint_14 : decode cL_reprint 14 = .ok (.bipush (-73), 2) := by decide +kernel
theorem dL_reprint_16 : decode cL_reprint 16 = .ok (.ireturn, 1) := by decide +kernel
theorem dL_reprint_17 : decode cL_reprint 17 = .ok (.astore 5, 2) := by decide +kernel
theorem dL_reprint_19 : decode cL_reprint 19 = .ok (.bipush (-71), 2) := by decide +kernel
theorem dL_reprint_21 : decode cL_reprint 21 = .ok (.ireturn, 1) := by decide +kernel
theorem dL_reprint_22 : decode cL_reprint 22 = .ok (.iload 4, 2) := by decide +kernel
theorem dL_reprint_24 : decode cL_reprint 24 = .ok (.ireturn, 1) := by decide +kernel
theorem dL_copies_0 : decode cL_copies 0 = .ok (.aload_n 0, 1) := by decide +kernel
theorem dL_copies_1 : decode cL_copies 1 = .ok (.iload_n 1, 1) := by decide +kernel
theorem dL_copies_2 : decode cL_copies 2 = .ok (.iload_n 2, 1) := by decide +kernel
theorem dL_copies_3 : decode cL_copies 3 = .ok (.invokevirtual 40, 3) := by decide +kernel
theorem dL_copies_6 : decode cL_copies 6 = .ok (.istore_n 3, 1) := by decide +kernel
theorem dL_copies_7 : decode cL_copies 7 = .ok (.goto 8, 3) := by decide +kernel
theorem dL_copies_10 : decode cL_copies 10 = .ok (.astore 4, 2) := by decide +kernel
theorem dL_copies_12 : decode cL_copies 12 = .ok (.bipush (-73), 2) := by decide +kernel
theorem dL_copies_14 : decode cL_copies 14 = .ok (.ireturn, 1) := by decide +kernel
theorem dL_copies_15 : decode cL_copies 15 = .ok (.iload_n 3, 1) := by decide +kernel
theorem dL_copies_16 : decode cL_copies 16 = .ok (.ireturn, 1) := by decide +kernel
theorem dL_account_0 : decode cL_account 0 = .ok (.aload_n 0, 1) := by decide +kernel
theorem dL_account_1 : decode cL_account 1 = .ok (.iload_n 1, 1) := by decide +kernel
theorem dL_account_2 : decode cL_account 2 = .ok (.invokevirtual 44, 3) := by decide +kernel
theorem dL_account_5 : decode cL_account 5 = .ok (.istore_n 2, 1) := by decide +kernel
theorem dL_account_6 : decode cL_account 6 = .ok (.goto 7, 3) := by decide +kernel
theorem dL_account_9 : decode cL_account 9 = .ok (.astore_n 3, 1) := by decide +kernel
theorem dL_account_10 : decode cL_account 10 = .ok (.bipush (-73), 2) := by decide +kernel
theorem dL_account_12 : decode cL_account 12 = .ok (.ireturn, 1) := by decide +kernel
theorem dL_account_13 : decode cL_account 13 = .ok (.iload_n 2, 1) := by decide +kernel
theorem dL_account_14 : decode cL_account 14 = .ok (.ireturn, 1) := by decide +kernel
theorem dL_found_0 : decode cL_found 0 = .ok (.aload_n 0, 1) := by decide +kernel
theorem dL_found_1 : decode cL_found 1 = .ok (.iload_n 1, 1) := by decide +kernel
theorem dL_found_2 : decode cL_found 2 = .ok (.iload_n 2, 1) := by decide +kernel
theorem dL_found_3 : decode cL_found 3 = .ok (.iload_n 3, 1) := by decide +kernel
theorem dL_found_4 : decode cL_found 4 = .ok (.iload 4, 2) := by decide +kernel
theorem dL_found_6 : decode cL_found 6 = .ok (.iload 5, 2) := by decide +kernel
theorem dL_found_8 : decode cL_found 8 = .ok (.invokevirtual 47, 3) := by decide +kernel
theorem dL_found_11 : decode cL_found 11 = .ok (.istore 6, 2) := by decide +kernel
theorem dL_found_13 : decode cL_found 13 = .ok (.goto 13, 3) := by decide +kernel
theorem dL_found_16 : decode cL_found 16 = .ok (.astore 7, 2) := by decide +kernel
theorem dL_found_18 : decode cL_found 18 = .ok (.bipush (-71), 2) := by decide +kernel
theorem dL_found_20 : decode cL_found 20 = .ok (.ireturn, 1) := by decide +kernel
theorem dL_found_21 : decode cL_found 21 = .ok (.astore 7, 2) := by decide +kernel
theorem dL_found_23 : decode cL_found 23 = .ok (.bipush (-73), 2) := by decide +kernel
theorem dL_found_25 : decode cL_found 25 = .ok (.ireturn, 1) := by decide +kernel
theorem dL_found_26 : decode cL_found 26 = .ok (.iload 6, 2) := by decide +kernel
theorem dL_found_28 : decode cL_found 28 = .ok (.ireturn, 1) := by decide +kernel
theorem dL_read_0 : decode cL_read 0 = .ok (.aload_n 0, 1) := by decide +kernel
theorem dL_read_1 : decode cL_read 1 = .ok (.iload_n 1, 1) := by decide +kernel
theorem dL_read_2 : decode cL_read 2 = .ok (.iload_n 2, 1) := by decide +kernel
theorem dL_read_3 : decode cL_read 3 = .ok (.iload_n 3, 1) := by decide +kernel
theorem dL_read_4 : decode cL_read 4 = .ok (.iload 4, 2) := by decide +kernel
theorem dL_read_6 : decode cL_read 6 = .ok (.invokevirtual 51, 3) := by decide +kernel
theorem dL_read_9 : decode cL_read 9 = .ok (.istore 5, 2) := by decide +kernel
theorem dL_read_11 : decode cL_read 11 = .ok (.goto 18, 3) := by decide +kernel
theorem dL_read_14 : decode cL_read 14 = .ok (.astore 6, 2) := by decide +kernel
theorem dL_read_16 : decode cL_read 16 = .ok (.bipush (-71), 2) := by decide +kernel
theorem dL_read_18 : decode cL_read 18 = .ok (.ireturn, 1) := by decide +kernel
theorem dL_read_19 : decode cL_read 19 = .ok (.astore 6, 2) := by decide +kernel
theorem dL_read_21 : decode cL_read 21 = .ok (.bipush (-73), 2) := by decide +kernel
theorem dL_read_23 : decode cL_read 23 = .ok (.ireturn, 1) := by decide +kernel
theorem dL_read_24 : decode cL_read 24 = .ok (.astore 6, 2) := by decide +kernel
theorem dL_read_26 : decode cL_read 26 = .ok (.bipush (-74), 2) := by decide +kernel
theorem dL_read_28 : decode cL_read 28 = .ok (.ireturn, 1) := by decide +kernel
theorem dL_read_29 : decode cL_read 29 = .ok (.iload 5, 2) := by decide +kernel
theorem dL_read_31 : decode cL_read 31 = .ok (.ireturn, 1) := by decide +kernel
theorem dL_view_0 : decode cL_view 0 = .ok (.aload_n 0, 1) := by decide +kernel
theorem dL_view_1 : decode cL_view 1 = .ok (.iload_n 1, 1) := by decide +kernel
theorem dL_view_2 : decode cL_view 2 = .ok (.iload_n 2, 1) := by decide +kernel
theorem dL_view_3 : decode cL_view 3 = .ok (.iload_n 3, 1) := by decide +kernel
theorem dL_view_4 : decode cL_view 4 = .ok (.iload 4, 2) := by decide +kernel
theorem dL_view_6 : decode cL_view 6 = .ok (.invokevirtual 57, 3) := by decide +kernel
theorem dL_view_9 : decode cL_view 9 = .ok (.goto 8, 3) := by decide +kernel
theorem dL_view_12 : decode cL_view 12 = .ok (.astore 5, 2) := by decide +kernel
theorem dL_view_14 : decode cL_view 14 = .ok (.bipush (-71), 2) := by decide +kernel
theorem dL_view_16 : decode cL_view 16 = .ok (.ireturn, 1) := by decide +kernel
theorem dL_view_17 : decode cL_view 17 = .ok (.iconst 0, 1) := by decide +kernel
theorem dL_view_18 : decode cL_view 18 = .ok (.ireturn, 1) := by decide +kernel
theorem dL_span_0 : decode cL_span 0 = .ok (.aload_n 0, 1) := by decide +kernel
theorem dL_span_1 : decode cL_span 1 = .ok (.iload_n 1, 1) := by decide +kernel
theorem dL_span_2 : decode cL_span 2 = .ok (.iload_n 2, 1) := by decide +kernel
theorem dL_span_3 : decode cL_span 3 = .ok (.invokevirtual 61, 3) := by decide +kernel
theorem dL_span_6 : decode cL_span 6 = .ok (.istore_n 3, 1) := by decide +kernel
theorem dL_span_7 : decode cL_span 7 = .ok (.goto 8, 3) := by decide +kernel
theorem dL_span_10 : decode cL_span 10 = .ok (.astore 4, 2) := by decide +kernel
theorem dL_span_12 : decode cL_span 12 = .ok (.bipush (-71), 2) := by decide +kernel
theorem dL_span_14 : decode cL_span 14 = .ok (.ireturn, 1) := by decide +kernel
theorem dL_span_15 : decode cL_span 15 = .ok (.iload_n 3, 1) := by decide +kernel
theorem dL_span_16 : decode cL_span 16 = .ok (.ireturn, 1) := by decide +kernel
theorem dL_hold_0 : decode cL_hold 0 = .ok (.aload_n 0, 1) := by decide +kernel
theorem dL_hold_1 : decode cL_hold 1 = .ok (.iload_n 1, 1) := by decide +kernel
theorem dL_hold_2 : decode cL_hold 2 = .ok (.iload_n 2, 1) := by decide +kernel
theorem dL_hold_3 : decode cL_hold 3 = .ok (.invokevirtual 64, 3) := by decide +kernel
theorem dL_hold_6 : decode cL_hold 6 = .ok (.istore_n 3, 1) := by decide +kernel
theorem dL_hold_7 : decode cL_hold 7 = .ok (.goto 8, 3) := by decide +kernel
theorem dL_hold_10 : decode cL_hold 10 = .ok (.astore 4, 2) := by decide +kernel
theorem dL_hold_12 : decode cL_hold 12 = .ok (.bipush (-71), 2) := by decide +kernel
theorem dL_hold_14 : decode cL_hold 14 = .ok (.ireturn, 1) := by decide +kernel
theorem dL_hold_15 : decode cL_hold 15 = .ok (.iload_n 3, 1) := by decide +kernel
theorem dL_hold_16 : decode cL_hold 16 = .ok (.ifCond .eq 7, 3) := by decide +kernel
theorem dL_hold_19 : decode cL_hold 19 = .ok (.iconst 1, 1) := by decide +kernel
theorem dL_hold_20 : decode cL_hold 20 = .ok (.goto 4, 3) := by decide +kernel
theorem dL_hold_23 : decode cL_hold 23 = .ok (.iconst 0, 1) := by decide +kernel
theorem dL_hold_24 : decode cL_hold 24 = .ok (.ireturn, 1) := by decide +kernel
theorem dL_bundle_0 : decode cL_bundle 0 = .ok (.aload_n 0, 1) := by decide +kernel
theorem dL_bundle_1 : decode cL_bundle 1 = .ok (.iload_n 1, 1) := by decide +kernel
theorem dL_bundle_2 : decode cL_bundle 2 = .ok (.iload_n 2, 1) := by decide +kernel
theorem dL_bundle_3 : decode cL_bundle 3 = .ok (.invokevirtual 68, 3) := by decide +kernel
theorem dL_bundle_6 : decode cL_bundle 6 = .ok (.istore_n 3, 1) := by decide +kernel
theorem dL_bundle_7 : decode cL_bundle 7 = .ok (.goto 8, 3) := by decide +kernel
theorem dL_bundle_10 : decode cL_bundle 10 = .ok (.astore 4, 2) := by decide +kernel
theorem dL_bundle_12 : decode cL_bundle 12 = .ok (.bipush (-71), 2) := by decide +kernel
theorem dL_bundle_14 : decode cL_bundle 14 = .ok (.ireturn, 1) := by decide +kernel
theorem dL_bundle_15 : decode cL_bundle 15 = .ok (.iload_n 3, 1) := by decide +kernel
theorem dL_bundle_16 : decode cL_bundle 16 = .ok (.ireturn, 1) := by decide +kernel
theorem dL_lines_0 : decode cL_lines 0 = .ok (.lload_n 0, 1) := by decide +kernel
theorem dL_lines_1 : decode cL_lines 1 = .ok (.ldc2_w 71, 3) := by decide +kernel
theorem dL_lines_4 : decode cL_lines 4 = .ok (.land, 1) := by decide +kernel
theorem dL_lines_5 : decode cL_lines 5 = .ok (.l2i, 1) := by decide +kernel
theorem dL_lines_6 : decode cL_lines 6 = .ok (.ireturn, 1) := by decide +kernel
theorem dL_at_0 : decode cL_at 0 = .ok (.iload_n 2, 1) := by decide +kernel
theorem dL_at_1 : decode cL_at 1 = .ok (.lload_n 0, 1) := by decide +kernel
theorem dL_at_2 : decode cL_at 2 = .ok (.invokestatic 73, 3) := by decide +kernel
theorem dL_at_5 : decode cL_at 5 = .ok (.if_icmp .ge 19, 3) := by decide +kernel
theorem dL_at_8 : decode cL_at 8 = .ok (.lload_n 0, 1) := by decide +kernel
theorem dL_at_9 : decode cL_at 9 = .ok (.iconst 4, 1) := by decide +kernel
theorem dL_at_10 : decode cL_at 10 = .ok (.bipush 7, 2) := by decide +kernel
theorem dL_at_12 : decode cL_at 12 = .ok (.iload_n 2, 1) := by decide +kernel
theorem dL_at_13 : decode cL_at 13 = .ok (.imul, 1) := by decide +kernel
theorem dL_at_14 : decode cL_at 14 = .ok (.iadd, 1) := by decide +kernel
theorem dL_at_15 : decode cL_at 15 = .ok (.lshr, 1) := by decide +kernel
theorem dL_at_16 : decode cL_at 16 = .ok (.ldc2_w 79, 3) := by decide +kernel
theorem dL_at_19 : decode cL_at 19 = .ok (.land, 1) := by decide +kernel
theorem dL_at_20 : decode cL_at 20 = .ok (.l2i, 1) := by decide +kernel
theorem dL_at_21 : decode cL_at 21 = .ok (.goto 4, 3) := by decide +kernel
theorem dL_at_24 : decode cL_at 24 = .ok (.iconst (-1), 1) := by decide +kernel
theorem dL_at_25 : decode cL_at 25 = .ok (.ireturn, 1) := by decide +kernel
theorem dL_isThere_0 : decode cL_isThere 0 = .ok (.aload_n 0, 1) := by decide +kernel
theorem dL_isThere_1 : decode cL_isThere 1 = .ok (.iload_n 1, 1) := by decide +kernel
theorem dL_isThere_2 : decode cL_isThere 2 = .ok (.iaload, 1) := by decide +kernel
theorem dL_isThere_3 : decode cL_isThere 3 = .ok (.ifCond .le 7, 3) := by decide +kernel
theorem dL_isThere_6 : decode cL_isThere 6 = .ok (.iconst 1, 1) := by decide +kernel
theorem dL_isThere_7 : decode cL_isThere 7 = .ok (.goto 4, 3) := by decide +kernel
theorem dL_isThere_10 : decode cL_isThere 10 = .ok (.iconst 0, 1) := by decide +kernel
theorem dL_isThere_11 : decode cL_isThere 11 = .ok (.ireturn, 1) := by decide +kernel
theorem dL_length_0 : decode cL_length 0 = .ok (.aload_n 0, 1) := by decide +kernel
theorem dL_length_1 : decode cL_length 1 = .ok (.iload_n 1, 1) := by decide +kernel
theorem dL_length_2 : decode cL_length 2 = .ok (.iaload, 1) := by decide +kernel
theorem dL_length_3 : decode cL_length 3 = .ok (.ifCond .le 9, 3) := by decide +kernel
theorem dL_length_6 : decode cL_length 6 = .ok (.aload_n 0, 1) := by decide +kernel
theorem dL_length_7 : decode cL_length 7 = .ok (.iload_n 1, 1) := by decide +kernel
theorem dL_length_8 : decode cL_length 8 = .ok (.iaload, 1) := by decide +kernel
theorem dL_length_9 : decode cL_length 9 = .ok (.goto 7, 3) := by decide +kernel
theorem dL_length_12 : decode cL_length 12 = .ok (.aload_n 0, 1) := by decide +kernel
theorem dL_length_13 : decode cL_length 13 = .ok (.iload_n 1, 1) := by decide +kernel
theorem dL_length_14 : decode cL_length 14 = .ok (.iaload, 1) := by decide +kernel
theorem dL_length_15 : decode cL_length 15 = .ok (.ineg, 1) := by decide +kernel
theorem dL_length_16 : decode cL_length 16 = .ok (.ireturn, 1) := by decide +kernel
theorem dL_sees_0 : decode cL_sees 0 = .ok (.aload_n 0, 1) := by decide +kernel
theorem dL_sees_1 : decode cL_sees 1 = .ok (.iload 4, 2) := by decide +kernel
theorem dL_sees_3 : decode cL_sees 3 = .ok (.iaload, 1) := by decide +kernel
theorem dL_sees_4 : decode cL_sees 4 = .ok (.bipush 127, 2) := by decide +kernel
theorem dL_sees_6 : decode cL_sees 6 = .ok (.iand, 1) := by decide +kernel
theorem dL_sees_7 : decode cL_sees 7 = .ok (.iconst 1, 1) := by decide +kernel
theorem dL_sees_8 : decode cL_sees 8 = .ok (.isub, 1) := by decide +kernel
theorem dL_sees_9 : decode cL_sees 9 = .ok (.istore 5, 2) := by decide +kernel
theorem dL_sees_11 : decode cL_sees 11 = .ok (.aload_n 1, 1) := by decide +kernel
theorem dL_sees_12 : decode cL_sees 12 = .ok (.iload 4, 2) := by decide +kernel
theorem dL_sees_14 : decode cL_sees 14 = .ok (.invokestatic 81, 3) := by decide +kernel
theorem dL_sees_17 : decode cL_sees 17 = .ok (.ifCond .eq 44, 3) := by decide +kernel
theorem dL_sees_20 : decode cL_sees 20 = .ok (.iload 5, 2) := by decide +kernel
theorem dL_sees_22 : decode cL_sees 22 = .ok (.ifCond .ge 10, 3) := by decide +kernel
theorem dL_sees_25 : decode cL_sees 25 = .ok (.iload_n 3, 1) := by decide +kernel
theorem dL_sees_26 : decode cL_sees 26 = .ok (.ifCond .ne 35, 3) := by decide +kernel
theorem dL_sees_29 : decode cL_sees 29 = .ok (.goto 28, 3) := by decide +kernel
theorem dL_sees_32 : decode cL_sees 32 = .ok (.iload 5, 2) := by decide +kernel
theorem dL_sees_34 : decode cL_sees 34 = .ok (.aload_n 2, 1) := by decide +kernel
theorem dL_sees_35 : decode cL_sees 35 = .ok (.iload_n 3, 1) := by decide +kernel
theorem dL_sees_36 : decode cL_sees 36 = .ok (.iaload, 1) := by decide +kernel
theorem dL_sees_37 : decode cL_sees 37 = .ok (.bipush 127, 2) := by decide +kernel
theorem dL_sees_39 : decode cL_sees 39 = .ok (.iand, 1) := by decide +kernel
theorem dL_sees_40 : decode cL_sees 40 = .ok (.if_icmp .lt 21, 3) := by decide +kernel
theorem dL_sees_43 : decode cL_sees 43 = .ok (.iload 5, 2) := by decide +kernel
theorem dL_sees_45 : decode cL_sees 45 = .ok (.aload_n 2, 1) := by decide +kernel
theorem dL_sees_46 : decode cL_sees 46 = .ok (.iload_n 3, 1) := by decide +kernel
theorem dL_sees_47 : decode cL_sees 47 = .ok (.iaload, 1) := by decide +kernel
theorem dL_sees_48 : decode cL_sees 48 = .ok (.bipush 7, 2) := by decide +kernel
theorem dL_sees_50 : decode cL_sees 50 = .ok (.ishr, 1) := by decide +kernel
theorem dL_sees_51 : decode cL_sees 51 = .ok (.bipush 127, 2) := by decide +kernel
theorem dL_sees_53 : decode cL_sees 53 = .ok (.iand, 1) := by decide +kernel
theorem dL_sees_54 : decode cL_sees 54 = .ok (.if_icmp .gt 7, 3) := by decide +kernel
theorem dL_sees_57 : decode cL_sees 57 = .ok (.iconst 1, 1) := by decide +kernel
theorem dL_sees_58 : decode cL_sees 58 = .ok (.goto 4, 3) := by decide +kernel
theorem dL_sees_61 : decode cL_sees 61 = .ok (.iconst 0, 1) := by decide +kernel
theorem dL_sees_62 : decode cL_sees 62 = .ok (.ireturn, 1) := by decide +kernel
theorem dL_keep_0 : decode cL_keep 0 = .ok (.iconst (-1), 1) := by decide +kernel
theorem dL_keep_1 : decode cL_keep 1 = .ok (.istore 6, 2) := by decide +kernel
theorem dL_keep_3 : decode cL_keep 3 = .ok (.iconst 0, 1) := by decide +kernel
theorem dL_keep_4 : decode cL_keep 4 = .ok (.istore 7, 2) := by decide +kernel
theorem dL_keep_6 : decode cL_keep 6 = .ok (.iload 7, 2) := by decide +kernel
theorem dL_keep_8 : decode cL_keep 8 = .ok (.aload 5, 2) := by decide +kernel
theorem dL_keep_10 : decode cL_keep 10 = .ok (.iconst 1, 1) := by decide +kernel
theorem dL_keep_11 : decode cL_keep 11 = .ok (.iaload, 1) := by decide +kernel
theorem dL_keep_12 : decode cL_keep 12 = .ok (.if_icmp .ge 49, 3) := by decide +kernel
theorem dL_keep_15 : decode cL_keep 15 = .ok (.aload_n 2, 1) := by decide +kernel
theorem dL_keep_16 : decode cL_keep 16 = .ok (.iload 7, 2) := by decide +kernel
theorem dL_keep_18 : decode cL_keep 18 = .ok (.iaload, 1) := by decide +kernel
theorem dL_keep_19 : decode cL_keep 19 = .ok (.bipush 6, 2) := by decide +kernel
theorem dL_keep_21 : decode cL_keep 21 = .ok (.ishr, 1) := by decide +kernel
theorem dL_keep_22 : decode cL_keep 22 = .ok (.aload 5, 2) := by decide +kernel
theorem dL_keep_24 : decode cL_keep 24 = .ok (.iconst 0, 1) := by decide +kernel
theorem dL_keep_25 : decode cL_keep 25 = .ok (.iaload, 1) := by decide +kernel
theorem dL_keep_26 : decode cL_keep 26 = .ok (.if_icmp .gt 29, 3) := by decide +kernel
theorem dL_keep_29 : decode cL_keep 29 = .ok (.iload 6, 2) := by decide +kernel
theorem dL_keep_31 : decode cL_keep 31 = .ok (.ifCond .lt 20, 3) := by decide +kernel
theorem dL_keep_34 : decode cL_keep 34 = .ok (.aload_n 2, 1) := by decide +kernel
theorem dL_keep_35 : decode cL_keep 35 = .ok (.iload 7, 2) := by decide +kernel
theorem dL_keep_37 : decode cL_keep 37 = .ok (.iaload, 1) := by decide +kernel
theorem dL_keep_38 : decode cL_keep 38 = .ok (.bipush 6, 2) := by decide +kernel
theorem dL_keep_40 : decode cL_keep 40 = .ok (.ishr, 1) := by decide +kernel
theorem dL_keep_41 : decode cL_keep 41 = .ok (.aload_n 2, 1) := by decide +kernel
theorem dL_keep_42 : decode cL_keep 42 = .ok (.iload 6, 2) := by decide +kernel
theorem dL_keep_44 : decode cL_keep 44 = .ok (.iaload, 1) := by decide +kernel
theorem dL_keep_45 : decode cL_keep 45 = .ok (.bipush 6, 2) := by decide +kernel
theorem dL_keep_47 : decode cL_keep 47 = .ok (.ishr, 1) := by decide +kernel
theorem dL_keep_48 : decode cL_keep 48 = .ok (.if_icmp .lt 7, 3) := by decide +kernel
theorem dL_keep_51 : decode cL_keep 51 = .ok (.iload 7, 2) := by decide +kernel
theorem dL_keep_53 : decode cL_keep 53 = .ok (.istore 6, 2) := by decide +kernel
theorem dL_keep_55 : decode cL_keep 55 = .ok (.iinc 7 1, 3) := by decide +kernel
theorem dL_keep_58 : decode cL_keep 58 = .ok (.goto (-52), 3) := by decide +kernel
theorem dL_keep_61 : decode cL_keep 61 = .ok (.iload 6, 2) := by decide +kernel
theorem dL_keep_63 : decode cL_keep 63 = .ok (.ifCond .ge 7, 3) := by decide +kernel
theorem dL_keep_66 : decode cL_keep 66 = .ok (.iconst 0, 1) := by decide +kernel
theorem dL_keep_67 : decode cL_keep 67 = .ok (.goto 12, 3) := by decide +kernel
theorem dL_keep_70 : decode cL_keep 70 = .ok (.aload_n 2, 1) := by decide +kernel
theorem dL_keep_71 : decode cL_keep 71 = .ok (.iload 6, 2) := by decide +kernel
theorem dL_keep_73 : decode cL_keep 73 = .ok (.iaload, 1) := by decide +kernel
theorem dL_keep_74 : decode cL_keep 74 = .ok (.iconst 3, 1) := by decide +kernel
theorem dL_keep_75 : decode cL_keep 75 = .ok (.ishr, 1) := by decide +kernel
theorem dL_keep_76 : decode cL_keep 76 = .ok (.bipush 7, 2) := by decide +kernel
theorem dL_keep_78 : decode cL_keep 78 = .ok (.iand, 1) := by decide +kernel
theorem dL_keep_79 : decode cL_keep 79 = .ok (.istore 7, 2) := by decide +kernel
theorem dL_keep_81 : decode cL_keep 81 = .ok (.iload 6, 2) := by decide +kernel
theorem dL_keep_83 : decode cL_keep 83 = .ok (.ifCond .ge 7, 3) := by decide +kernel
theorem dL_keep_86 : decode cL_keep 86 = .ok (.iconst 1, 1) := by decide +kernel
theorem dL_keep_87 : decode cL_keep 87 = .ok (.goto 10, 3) := by decide +kernel
theorem dL_keep_90 : decode cL_keep 90 = .ok (.aload_n 2, 1) := by decide +kernel
theorem dL_keep_91 : decode cL_keep 91 = .ok (.iload 6, 2) := by decide +kernel
theorem dL_keep_93 : decode cL_keep 93 = .ok (.iaload, 1) := by decide +kernel
theorem dL_keep_94 : decode cL_keep 94 = .ok (.bipush 7, 2) := by decide +kernel
theorem dL_keep_96 : decode cL_keep 96 = .ok (.iand, 1) := by decide +kernel
theorem dL_keep_97 : decode cL_keep 97 = .ok (.istore 8, 2) := by decide +kernel
theorem dL_keep_99 : decode cL_keep 99 = .ok (.aload 5, 2) := by decide +kernel
theorem dL_keep_101 : decode cL_keep 101 = .ok (.iconst 2, 1) := by decide +kernel
theorem dL_keep_102 : decode cL_keep 102 = .ok (.iaload, 1) := by decide +kernel
theorem dL_keep_103 : decode cL_keep 103 = .ok (.istore 9, 2) := by decide +kernel
theorem dL_keep_105 : decode cL_keep 105 = .ok (.iload 9, 2) := by decide +kernel
theorem dL_keep_107 : decode cL_keep 107 = .ok (.aload 5, 2) := by decide +kernel
theorem dL_keep_109 : decode cL_keep 109 = .ok (.iconst 2, 1) := by decide +kernel
theorem dL_keep_110 : decode cL_keep 110 = .ok (.iaload, 1) := by decide +kernel
theorem dL_keep_111 : decode cL_keep 111 = .ok (.aload 5, 2) := by decide +kernel
theorem dL_keep_113 : decode cL_keep 113 = .ok (.iconst 3, 1) := by decide +kernel
theorem dL_keep_114 : decode cL_keep 114 = .ok (.iaload, 1) := by decide +kernel
theorem dL_keep_115 : decode cL_keep 115 = .ok (.iadd, 1) := by decide +kernel
theorem dL_keep_116 : decode cL_keep 116 = .ok (.if_icmp .ge 147, 3) := by decide +kernel
theorem dL_keep_119 : decode cL_keep 119 = .ok (.aload_n 0, 1) := by decide +kernel
theorem dL_keep_120 : decode cL_keep 120 = .ok (.iload 9, 2) := by decide +kernel
theorem dL_keep_122 : decode cL_keep 122 = .ok (.laload, 1) := by decide +kernel
theorem dL_keep_123 : decode cL_keep 123 = .ok (.iload 7, 2) := by decide +kernel
theorem dL_keep_125 : decode cL_keep 125 = .ok (.invokestatic 85, 3) := by decide +kernel
theorem dL_keep_128 : decode cL_keep 128 = .ok (.istore 10, 2) := by decide +kernel
theorem dL_keep_130 : decode cL_keep 130 = .ok (.iload 9, 2) := by decide +kernel
theorem dL_keep_132 : decode cL_keep 132 = .ok (.aload 5, 2) := by decide +kernel
theorem dL_keep_134 : decode cL_keep 134 = .ok (.iconst 2, 1) := by decide +kernel
theorem dL_keep_135 : decode cL_keep 135 = .ok (.iaload, 1) := by decide +kernel
theorem dL_keep_136 : decode cL_keep 136 = .ok (.if_icmp .le 30, 3) := by decide +kernel
theorem dL_keep_139 : decode cL_keep 139 = .ok (.iload 10, 2) := by decide +kernel
theorem dL_keep_141 : decode cL_keep 141 = .ok (.ifCond .lt 21, 3) := by decide +kernel
theorem dL_keep_144 : decode cL_keep 144 = .ok (.iload 10, 2) := by decide +kernel
theorem dL_keep_146 : decode cL_keep 146 = .ok (.aload_n 3, 1) := by decide +kernel
theorem dL_keep_147 : decode cL_keep 147 = .ok (.aload 5, 2) := by decide +kernel
theorem dL_keep_149 : decode cL_keep 149 = .ok (.iconst 5, 1) := by decide +kernel
theorem dL_keep_150 : decode cL_keep 150 = .ok (.iaload, 1) := by decide +kernel
theorem dL_keep_151 : decode cL_keep 151 = .ok (.iconst 1, 1) := by decide +kernel
theorem dL_keep_152 : decode cL_keep 152 = .ok (.isub, 1) := by decide +kernel
theorem dL_keep_153 : decode cL_keep 153 = .ok (.iaload, 1) := by decide +kernel
theorem dL_keep_154 : decode cL_keep 154 = .ok (.bipush 127, 2) := by decide +kernel
theorem dL_keep_156 : decode cL_keep 156 = .ok (.iand, 1) := by decide +kernel
theorem dL_keep_157 : decode cL_keep 157 = .ok (.iconst 1, 1) := by decide +kernel
theorem dL_keep_158 : decode cL_keep 158 = .ok (.isub, 1) := by decide +kernel
theorem dL_keep_159 : decode cL_keep 159 = .ok (.if_icmp .ne 7, 3) := by decide +kernel
theorem dL_keep_162 : decode cL_keep 162 = .ok (.iconst 1, 1) := by decide +kernel
theorem dL_keep_163 : decode cL_keep 163 = .ok (.goto 4, 3) := by decide +kernel
theorem dL_keep_166 : decode cL_keep 166 = .ok (.iconst 0, 1) := by decide +kernel
theorem dL_keep_167 : decode cL_keep 167 = .ok (.istore 11, 2) := by decide +kernel
theorem dL_keep_169 : decode cL_keep 169 = .ok (.iload 11, 2) := by decide +kernel
theorem dL_keep_171 : decode cL_keep 171 = .ok (.ifCond .ne 73, 3) := by decide +kernel
theorem dL_keep_174 : decode cL_keep 174 = .ok (.aload_n 0, 1) := by decide +kernel
theorem dL_keep_175 : decode cL_keep 175 = .ok (.iload 9, 2) := by decide +kernel
theorem dL_keep_177 : decode cL_keep 177 = .ok (.laload, 1) := by decide +kernel
theorem dL_keep_178 : decode cL_keep 178 = .ok (.iload 8, 2) := by decide +kernel
theorem dL_keep_180 : decode cL_keep 180 = .ok (.invokestatic 85, 3) := by decide +kernel
theorem dL_keep_183 : decode cL_keep 183 = .ok (.istore 12, 2) := by decide +kernel
theorem dL_keep_185 : decode cL_keep 185 = .ok (.aload_n 3, 1) := by decide +kernel
theorem dL_keep_186 : decode cL_keep 186 = .ok (.aload 5, 2) := by decide +kernel
theorem dL_keep_188 : decode cL_keep 188 = .ok (.iconst 5, 1) := by decide +kernel
theorem dL_keep_189 : decode cL_keep 189 = .ok (.iaload, 1) := by decide +kernel
theorem dL_keep_190 : decode cL_keep 190 = .ok (.iload 10, 2) := by decide +kernel
theorem dL_keep_192 : decode cL_keep 192 = .ok (.iconst 1, 1) := by decide +kernel
theorem dL_keep_193 : decode cL_keep 193 = .ok (.iadd, 1) := by decide +kernel
theorem dL_keep_194 : decode cL_keep 194 = .ok (.sipush 128, 3) := by decide +kernel
theorem dL_keep_197 : decode cL_keep 197 = .ok (.iload 12, 2) := by decide +kernel
theorem dL_keep_199 : decode cL_keep 199 = .ok (.ifCond .ge 7, 3) := by decide +kernel
theorem dL_keep_202 : decode cL_keep 202 = .ok (.iconst 0, 1) := by decide +kernel
theorem dL_keep_203 : decode cL_keep 203 = .ok (.goto 7, 3) := by decide +kernel
theorem dL_keep_206 : decode cL_keep 206 = .ok (.iload 12, 2) := by decide +kernel
theorem dL_keep_208 : decode cL_keep 208 = .ok (.iconst 4, 1) := by decide +kernel
theorem dL_keep_209 : decode cL_keep 209 = .ok (.irem, 1) := by decide +kernel
theorem dL_keep_210 : decode cL_keep 210 = .ok (.imul, 1) := by decide +kernel
theorem dL_keep_211 : decode cL_keep 211 = .ok (.iadd, 1) := by decide +kernel
theorem dL_keep_212 : decode cL_keep 212 = .ok (.sipush 512, 3) := by decide +kernel
theorem dL_keep_215 : decode cL_keep 215 = .ok (.iload 9, 2) := by decide +kernel
theorem dL_keep_217 : decode cL_keep 217 = .ok (.imul, 1) := by decide +kernel
theorem dL_keep_218 : decode cL_keep 218 = .ok (.iadd, 1) := by decide +kernel
theorem dL_keep_219 : decode cL_keep 219 = .ok (.ldc 89, 2) := by decide +kernel
theorem dL_keep_221 : decode cL_keep 221 = .ok (.aload 5, 2) := by decide +kernel
theorem dL_keep_223 : decode cL_keep 223 = .ok (.iconst 4, 1) := by decide +kernel
theorem dL_keep_224 : decode cL_keep 224 = .ok (.iaload, 1) := by decide +kernel
theorem dL_keep_225 : decode cL_keep 225 = .ok (.imul, 1) := by decide +kernel
theorem dL_keep_226 : decode cL_keep 226 = .ok (.iadd, 1) := by decide +kernel
theorem dL_keep_227 : decode cL_keep 227 = .ok (.iastore, 1) := by decide +kernel
theorem dL_keep_228 : decode cL_keep 228 = .ok (.aload 4, 2) := by decide +kernel
theorem dL_keep_230 : decode cL_keep 230 = .ok (.aload 5, 2) := by decide +kernel
theorem dL_keep_232 : decode cL_keep 232 = .ok (.iconst 5, 1) := by decide +kernel
theorem dL_keep_233 : decode cL_keep 233 = .ok (.iaload, 1) := by decide +kernel
theorem dL_keep_234 : decode cL_keep 234 = .ok (.iconst 0, 1) := by decide +kernel
theorem dL_keep_235 : decode cL_keep 235 = .ok (.iastore, 1) := by decide +kernel
theorem dL_keep_236 : decode cL_keep 236 = .ok (.aload 5, 2) := by decide +kernel
theorem dL_keep_238 : decode cL_keep 238 = .ok (.iconst 5, 1) := by decide +kernel
theorem dL_keep_239 : decode cL_keep 239 = .ok (.dup2, 1) := by decide +kernel
theorem dL_keep_240 : decode cL_keep 240 = .ok (.iaload, 1) := by decide +kernel
theorem dL_keep_241 : decode cL_keep 241 = .ok (.iconst 1, 1) := by decide +kernel
theorem dL_keep_242 : decode cL_keep 242 = .ok (.iadd, 1) := by decide +kernel
theorem dL_keep_243 : decode cL_keep 243 = .ok (.iastore, 1) := by decide +kernel
theorem dL_keep_244 : decode cL_keep 244 = .ok (.aload 4, 2) := by decide +kernel
theorem dL_keep_246 : decode cL_keep 246 = .ok (.aload 5, 2) := by decide +kernel
theorem dL_keep_248 : decode cL_keep 248 = .ok (.iconst 5, 1) := by decide +kernel
theorem dL_keep_249 : decode cL_keep 249 = .ok (.iaload, 1) := by decide +kernel
theorem dL_keep_250 : decode cL_keep 250 = .ok (.iconst 1, 1) := by decide +kernel
theorem dL_keep_251 : decode cL_keep 251 = .ok (.isub, 1) := by decide +kernel
theorem dL_keep_252 : decode cL_keep 252 = .ok (.dup2, 1) := by decide +kernel
theorem dL_keep_253 : decode cL_keep 253 = .ok (.iaload, 1) := by decide +kernel
theorem dL_keep_254 : decode cL_keep 254 = .ok (.iconst 1, 1) := by decide +kernel
theorem dL_keep_255 : decode cL_keep 255 = .ok (.iadd, 1) := by decide +kernel
theorem dL_keep_256 : decode cL_keep 256 = .ok (.iastore, 1) := by decide +kernel
theorem dL_keep_257 : decode cL_keep 257 = .ok (.iinc 9 1, 3) := by decide +kernel
theorem dL_keep_260 : decode cL_keep 260 = .ok (.goto (-155), 3) := by decide +kernel
theorem dL_keep_263 : decode cL_keep 263 = .ok (.aload_n 1, 1) := by decide +kernel
theorem dL_keep_264 : decode cL_keep 264 = .ok (.aload 5, 2) := by decide +kernel
theorem dL_keep_266 : decode cL_keep 266 = .ok (.iconst 4, 1) := by decide +kernel
theorem dL_keep_267 : decode cL_keep 267 = .ok (.iaload, 1) := by decide +kernel
theorem dL_keep_268 : decode cL_keep 268 = .ok (.aload 5, 2) := by decide +kernel
theorem dL_keep_270 : decode cL_keep 270 = .ok (.iconst 2, 1) := by decide +kernel
theorem dL_keep_271 : decode cL_keep 271 = .ok (.iaload, 1) := by decide +kernel
theorem dL_keep_272 : decode cL_keep 272 = .ok (.bipush 64, 2) := by decide +kernel
theorem dL_keep_274 : decode cL_keep 274 = .ok (.aload 5, 2) := by decide +kernel
theorem dL_keep_276 : decode cL_keep 276 = .ok (.iconst 3, 1) := by decide +kernel
theorem dL_keep_277 : decode cL_keep 277 = .ok (.iaload, 1) := by decide +kernel
theorem dL_keep_278 : decode cL_keep 278 = .ok (.imul, 1) := by decide +kernel
theorem dL_keep_279 : decode cL_keep 279 = .ok (.iadd, 1) := by decide +kernel
theorem dL_keep_280 : decode cL_keep 280 = .ok (.sipush 4096, 3) := by decide +kernel
theorem dL_keep_283 : decode cL_keep 283 = .ok (.aload 5, 2) := by decide +kernel
theorem dL_keep_285 : decode cL_keep 285 = .ok (.iconst 0, 1) := by decide +kernel
theorem dL_keep_286 : decode cL_keep 286 = .ok (.iaload, 1) := by decide +kernel
theorem dL_keep_287 : decode cL_keep 287 = .ok (.imul, 1) := by decide +kernel
theorem dL_keep_288 : decode cL_keep 288 = .ok (.iadd, 1) := by decide +kernel
theorem dL_keep_289 : decode cL_keep 289 = .ok (.iastore, 1) := by decide +kernel
theorem dL_keep_290 : decode cL_keep 290 = .ok (.aload 5, 2) := by decide +kernel
theorem dL_keep_292 : decode cL_keep 292 = .ok (.iconst 2, 1) := by decide +kernel
theorem dL_keep_293 : decode cL_keep 293 = .ok (.dup2, 1) := by decide +kernel
theorem dL_keep_294 : decode cL_keep 294 = .ok (.iaload, 1) := by decide +kernel
theorem dL_keep_295 : decode cL_keep 295 = .ok (.aload 5, 2) := by decide +kernel
theorem dL_keep_297 : decode cL_keep 297 = .ok (.iconst 3, 1) := by decide +kernel
theorem dL_keep_298 : decode cL_keep 298 = .ok (.iaload, 1) := by decide +kernel
theorem dL_keep_299 : decode cL_keep 299 = .ok (.iadd, 1) := by decide +kernel
theorem dL_keep_300 : decode cL_keep 300 = .ok (.iastore, 1) := by decide +kernel
theorem dL_keep_301 : decode cL_keep 301 = .ok (.aload 5, 2) := by decide +kernel
theorem dL_keep_303 : decode cL_keep 303 = .ok (.iconst 3, 1) := by decide +kernel
theorem dL_keep_304 : decode cL_keep 304 = .ok (.iconst 0, 1) := by decide +kernel
theorem dL_keep_305 : decode cL_keep 305 = .ok (.iastore, 1) := by decide +kernel
theorem dL_keep_306 : decode cL_keep 306 = .ok (.aload 5, 2) := by decide +kernel
theorem dL_keep_308 : decode cL_keep 308 = .ok (.iconst 4, 1) := by decide +kernel
theorem dL_keep_309 : decode cL_keep 309 = .ok (.dup2, 1) := by decide +kernel
theorem dL_keep_310 : decode cL_keep 310 = .ok (.iaload, 1) := by decide +kernel
theorem dL_keep_311 : decode cL_keep 311 = .ok (.iconst 1, 1) := by decide +kernel
theorem dL_keep_312 : decode cL_keep 312 = .ok (.iadd, 1) := by decide +kernel
theorem dL_keep_313 : decode cL_keep 313 = .ok (.iastore, 1) := by decide +kernel
theorem dL_keep_314 : decode cL_keep 314 = .ok (.return_, 1) := by decide +kernel
theorem dL_types_0 : decode cL_types 0 = .ok (.iload_n 1, 1) := by decide +kernel
theorem dL_types_1 : decode cL_types 1 = .ok (.bipush 8, 2) := by decide +kernel
theorem dL_types_3 : decode cL_types 3 = .ok (.if_icmp .ge 124, 3) := by decide +kernel
theorem dL_types_6 : decode cL_types 6 = .ok (.iload_n 2, 1) := by decide +kernel
theorem dL_types_7 : decode cL_types 7 = .ok (.bipush 6, 2) := by decide +kernel
theorem dL_types_9 : decode cL_types 9 = .ok (.iand, 1) := by decide +kernel
theorem dL_types_10 : decode cL_types 10 = .ok (.ifCond .ne 14, 3) := by decide +kernel
theorem dL_types_13 : decode cL_types 13 = .ok (.iload_n 2, 1) := by decide +kernel
theorem dL_types_14 : decode cL_types 14 = .ok (.iconst 3, 1) := by decide +kernel
theorem dL_types_15 : decode cL_types 15 = .ok (.ishr, 1) := by decide +kernel
theorem dL_types_16 : decode cL_types 16 = .ok (.bipush 100, 2) := by decide +kernel
theorem dL_types_18 : decode cL_types 18 = .ok (.invokestatic 90, 3) := by decide +kernel
theorem dL_types_21 : decode cL_types 21 = .ok (.goto 11, 3) := by decide +kernel
theorem dL_types_24 : decode cL_types 24 = .ok (.iload_n 2, 1) := by decide +kernel
theorem dL_types_25 : decode cL_types 25 = .ok (.iconst 3, 1) := by decide +kernel
theorem dL_types_26 : decode cL_types 26 = .ok (.ishr, 1) := by decide +kernel
theorem dL_types_27 : decode cL_types 27 = .ok (.bipush 6, 2) := by decide +kernel
theorem dL_types_29 : decode cL_types 29 = .ok (.invokestatic 90, 3) := by decide +kernel
theorem dL_types_32 : decode cL_types 32 = .ok (.istore 11, 2) := by decide +kernel
theorem dL_types_34 : decode cL_types 34 = .ok (.aload_n 3, 1) := by decide +kernel
theorem dL_types_35 : decode cL_types 35 = .ok (.iconst 0, 1) := by decide +kernel
theorem dL_types_36 : decode cL_types 36 = .ok (.laload, 1) := by decide +kernel
theorem dL_types_37 : decode cL_types 37 = .ok (.invokestatic 73, 3) := by decide +kernel
theorem dL_types_40 : decode cL_types 40 = .ok (.istore 12, 2) := by decide +kernel
theorem dL_types_42 : decode cL_types 42 = .ok (.aload_n 0, 1) := by decide +kernel
theorem dL_types_43 : decode cL_types 43 = .ok (.bipush 100, 2) := by decide +kernel
theorem dL_types_45 : decode cL_types 45 = .ok (.invokestatic 93, 3) := by decide +kernel
theorem dL_types_48 : decode cL_types 48 = .ok (.bipush (-71), 2) := by decide +kernel
theorem dL_types_50 : decode cL_types 50 = .ok (.if_icmp .ne 13, 3) := by decide +kernel
theorem dL_types_53 : decode cL_types 53 = .ok (.aload_n 0, 1) := by decide +kernel
theorem dL_types_54 : decode cL_types 54 = .ok (.iconst (-1), 1) := by decide +kernel
theorem dL_types_55 : decode cL_types 55 = .ok (.invokestatic 93, 3) := by decide +kernel
theorem dL_types_58 : decode cL_types 58 = .ok (.bipush (-71), 2) := by decide +kernel
theorem dL_types_60 : decode cL_types 60 = .ok (.if_icmp .eq 5, 3) := by decide +kernel
theorem dL_types_63 : decode cL_types 63 = .ok (.iconst 0, 1) := by decide +kernel
theorem dL_types_64 : decode cL_types 64 = .ok (.ireturn, 1) := by decide +kernel
theorem dL_types_65 : decode cL_types 65 = .ok (.iload 12, 2) := by decide +kernel
theorem dL_types_67 : decode cL_types 67 = .ok (.bipush 8, 2) := by decide +kernel
theorem dL_types_69 : decode cL_types 69 = .ok (.if_icmp .ne 20, 3) := by decide +kernel
theorem dL_types_72 : decode cL_types 72 = .ok (.aload_n 0, 1) := by decide +kernel
theorem dL_types_73 : decode cL_types 73 = .ok (.iload 11, 2) := by decide +kernel
theorem dL_types_75 : decode cL_types 75 = .ok (.invokestatic 93, 3) := by decide +kernel
theorem dL_types_78 : decode cL_types 78 = .ok (.bipush (-72), 2) := by decide +kernel
theorem dL_types_80 : decode cL_types 80 = .ok (.if_icmp .ne 7, 3) := by decide +kernel
theorem dL_types_83 : decode cL_types 83 = .ok (.iconst 1, 1) := by decide +kernel
theorem dL_types_84 : decode cL_types 84 = .ok (.goto 4, 3) := by decide +kernel
theorem dL_types_87 : decode cL_types 87 = .ok (.iconst 0, 1) := by decide +kernel
theorem dL_types_88 : decode cL_types 88 = .ok (.ireturn, 1) := by decide +kernel
theorem dL_types_89 : decode cL_types 89 = .ok (.aload_n 3, 1) := by decide +kernel
theorem dL_types_90 : decode cL_types 90 = .ok (.iconst 0, 1) := by decide +kernel
theorem dL_types_91 : decode cL_types 91 = .ok (.dup2, 1) := by decide +kernel
theorem dL_types_92 : decode cL_types 92 = .ok (.laload, 1) := by decide +kernel
theorem dL_types_93 : decode cL_types 93 = .ok (.lconst 1, 1) := by decide +kernel
theorem dL_types_94 : decode cL_types 94 = .ok (.iload 11, 2) := by decide +kernel
theorem dL_types_96 : decode cL_types 96 = .ok (.i2l, 1) := by decide +kernel
theorem dL_types_97 : decode cL_types 97 = .ok (.iconst 4, 1) := by decide +kernel
theorem dL_types_98 : decode cL_types 98 = .ok (.bipush 7, 2) := by decide +kernel
theorem dL_types_100 : decode cL_types 100 = .ok (.iload 12, 2) := by decide +kernel
theorem dL_types_102 : decode cL_types 102 = .ok (.imul, 1) := by decide +kernel
theorem dL_types_103 : decode cL_types 103 = .ok (.iadd, 1) := by decide +kernel
theorem dL_types_104 : decode cL_types 104 = .ok (.lshl, 1) := by decide +kernel
theorem dL_types_105 : decode cL_types 105 = .ok (.ladd, 1) := by decide +kernel
theorem dL_types_106 : decode cL_types 106 = .ok (.ladd, 1) := by decide +kernel
theorem dL_types_107 : decode cL_types 107 = .ok (.lastore, 1) := by decide +kernel
theorem dL_types_108 : decode cL_types 108 = .ok (.aload_n 0, 1) := by decide +kernel
theorem dL_types_109 : decode cL_types 109 = .ok (.iload 11, 2) := by decide +kernel
theorem dL_types_111 : decode cL_types 111 = .ok (.invokestatic 93, 3) := by decide +kernel
theorem dL_types_114 : decode cL_types 114 = .ok (.iload 12, 2) := by decide +kernel
theorem dL_types_116 : decode cL_types 116 = .ok (.iconst 1, 1) := by decide +kernel
theorem dL_types_117 : decode cL_types 117 = .ok (.iadd, 1) := by decide +kernel
theorem dL_types_118 : decode cL_types 118 = .ok (.if_icmp .ne 7, 3) := by decide +kernel
theorem dL_types_121 : decode cL_types 121 = .ok (.iconst 1, 1) := by decide +kernel
theorem dL_types_122 : decode cL_types 122 = .ok (.goto 4, 3) := by decide +kernel
theorem dL_types_125 : decode cL_types 125 = .ok (.iconst 0, 1) := by decide +kernel
theorem dL_types_126 : decode cL_types 126 = .ok (.ireturn, 1) := by decide +kernel
theorem dL_types_127 : decode cL_types 127 = .ok (.aload 10, 2) := by decide +kernel
theorem dL_types_129 : decode cL_types 129 = .ok (.iconst 2, 1) := by decide +kernel
theorem dL_types_130 : decode cL_types 130 = .ok (.iaload, 1) := by decide +kernel
theorem dL_types_131 : decode cL_types 131 = .ok (.aload 10, 2) := by decide +kernel
theorem dL_types_133 : decode cL_types 133 = .ok (.iconst 3, 1) := by decide +kernel
theorem dL_types_134 : decode cL_types 134 = .ok (.iaload, 1) := by decide +kernel
theorem dL_types_135 : decode cL_types 135 = .ok (.iadd, 1) := by decide +kernel
theorem dL_types_136 : decode cL_types 136 = .ok (.bipush 58, 2) := by decide +kernel
theorem dL_types_138 : decode cL_types 138 = .ok (.if_icmp .le 20, 3) := by decide +kernel
theorem dL_types_141 : decode cL_types 141 = .ok (.aload_n 0, 1) := by decide +kernel
theorem dL_types_142 : decode cL_types 142 = .ok (.invokevirtual 96, 3) := by decide +kernel
theorem dL_types_145 : decode cL_types 145 = .ok (.aload 10, 2) := by decide +kernel
theorem dL_types_147 : decode cL_types 147 = .ok (.iconst 5, 1) := by decide +kernel
theorem dL_types_148 : decode cL_types 148 = .ok (.iaload, 1) := by decide +kernel
theorem dL_types_149 : decode cL_types 149 = .ok (.if_icmp .ne 7, 3) := by decide +kernel
theorem dL_types_152 : decode cL_types 152 = .ok (.iconst 1, 1) := by decide +kernel
theorem dL_types_153 : decode cL_types 153 = .ok (.goto 4, 3) := by decide +kernel
theorem dL_types_156 : decode cL_types 156 = .ok (.iconst 0, 1) := by decide +kernel
theorem dL_types_157 : decode cL_types 157 = .ok (.ireturn, 1) := by decide +kernel
theorem dL_types_158 : decode cL_types 158 = .ok (.iload_n 1, 1) := by decide +kernel
theorem dL_types_159 : decode cL_types 159 = .ok (.bipush 12, 2) := by decide +kernel
theorem dL_types_161 : decode cL_types 161 = .ok (.if_icmp .ge 60, 3) := by decide +kernel
theorem dL_types_164 : decode cL_types 164 = .ok (.aload 4, 2) := by decide +kernel
theorem dL_types_166 : decode cL_types 166 = .ok (.aload 10, 2) := by decide +kernel
theorem dL_types_168 : decode cL_types 168 = .ok (.iconst 2, 1) := by decide +kernel
theorem dL_types_169 : decode cL_types 169 = .ok (.iaload, 1) := by decide +kernel
theorem dL_types_170 : decode cL_types 170 = .ok (.aload 10, 2) := by decide +kernel
theorem dL_types_172 : decode cL_types 172 = .ok (.iconst 3, 1) := by decide +kernel
theorem dL_types_173 : decode cL_types 173 = .ok (.iaload, 1) := by decide +kernel
theorem dL_types_174 : decode cL_types 174 = .ok (.iadd, 1) := by decide +kernel
theorem dL_types_175 : decode cL_types 175 = .ok (.aload_n 3, 1) := by decide +kernel
theorem dL_types_176 : decode cL_types 176 = .ok (.iconst 0, 1) := by decide +kernel
theorem dL_types_177 : decode cL_types 177 = .ok (.laload, 1) := by decide +kernel
theorem dL_types_178 : decode cL_types 178 = .ok (.lastore, 1) := by decide +kernel
theorem dL_types_179 : decode cL_types 179 = .ok (.aload 5, 2) := by decide +kernel
theorem dL_types_181 : decode cL_types 181 = .ok (.aload 10, 2) := by decide +kernel
theorem dL_types_183 : decode cL_types 183 = .ok (.iconst 2, 1) := by decide +kernel
theorem dL_types_184 : decode cL_types 184 = .ok (.iaload, 1) := by decide +kernel
theorem dL_types_185 : decode cL_types 185 = .ok (.aload 10, 2) := by decide +kernel
theorem dL_types_187 : decode cL_types 187 = .ok (.iconst 3, 1) := by decide +kernel
theorem dL_types_188 : decode cL_types 188 = .ok (.iaload, 1) := by decide +kernel
theorem dL_types_189 : decode cL_types 189 = .ok (.iadd, 1) := by decide +kernel
theorem dL_types_190 : decode cL_types 190 = .ok (.iconst 1, 1) := by decide +kernel
theorem dL_types_191 : decode cL_types 191 = .ok (.iastore, 1) := by decide +kernel
theorem dL_types_192 : decode cL_types 192 = .ok (.aload_n 3, 1) := by decide +kernel
theorem dL_types_193 : decode cL_types 193 = .ok (.iconst 0, 1) := by decide +kernel
theorem dL_types_194 : decode cL_types 194 = .ok (.lconst 0, 1) := by decide +kernel
theorem dL_types_195 : decode cL_types 195 = .ok (.lastore, 1) := by decide +kernel
theorem dL_types_196 : decode cL_types 196 = .ok (.aload 10, 2) := by decide +kernel
theorem dL_types_198 : decode cL_types 198 = .ok (.iconst 3, 1) := by decide +kernel
theorem dL_types_199 : decode cL_types 199 = .ok (.dup2, 1) := by decide +kernel
theorem dL_types_200 : decode cL_types 200 = .ok (.iaload, 1) := by decide +kernel
theorem dL_types_201 : decode cL_types 201 = .ok (.iconst 1, 1) := by decide +kernel
theorem dL_types_202 : decode cL_types 202 = .ok (.iadd, 1) := by decide +kernel
theorem dL_types_203 : decode cL_types 203 = .ok (.iastore, 1) := by decide +kernel
theorem dL_types_204 : decode cL_types 204 = .ok (.aload_n 0, 1) := by decide +kernel
theorem dL_types_205 : decode cL_types 205 = .ok (.invokevirtual 99, 3) := by decide +kernel
theorem dL_types_208 : decode cL_types 208 = .ok (.aload 10, 2) := by decide +kernel
theorem dL_types_210 : decode cL_types 210 = .ok (.iconst 3, 1) := by decide +kernel
theorem dL_types_211 : decode cL_types 211 = .ok (.iaload, 1) := by decide +kernel
theorem dL_types_212 : decode cL_types 212 = .ok (.if_icmp .ne 7, 3) := by decide +kernel
theorem dL_types_215 : decode cL_types 215 = .ok (.iconst 1, 1) := by decide +kernel
theorem dL_types_216 : decode cL_types 216 = .ok (.goto 4, 3) := by decide +kernel
theorem dL_types_219 : decode cL_types 219 = .ok (.iconst 0, 1) := by decide +kernel
theorem dL_types_220 : decode cL_types 220 = .ok (.ireturn, 1) := by decide +kernel
theorem dL_types_221 : decode cL_types 221 = .ok (.aload_n 3, 1) := by decide +kernel
theorem dL_types_222 : decode cL_types 222 = .ok (.iconst 0, 1) := by decide +kernel
theorem dL_types_223 : decode cL_types 223 = .ok (.laload, 1) := by decide +kernel
theorem dL_types_224 : decode cL_types 224 = .ok (.invokestatic 73, 3) := by decide +kernel
theorem dL_types_227 : decode cL_types 227 = .ok (.ifCond .ne 10, 3) := by decide +kernel
theorem dL_types_230 : decode cL_types 230 = .ok (.aload 10, 2) := by decide +kernel
theorem dL_types_232 : decode cL_types 232 = .ok (.iconst 3, 1) := by decide +kernel
theorem dL_types_233 : decode cL_types 233 = .ok (.iaload, 1) := by decide +kernel
theorem dL_types_234 : decode cL_types 234 = .ok (.ifCond .eq 12, 3) := by decide +kernel
theorem dL_types_237 : decode cL_types 237 = .ok (.aload 10, 2) := by decide +kernel
theorem dL_types_239 : decode cL_types 239 = .ok (.iconst 4, 1) := by decide +kernel
theorem dL_types_240 : decode cL_types 240 = .ok (.iaload, 1) := by decide +kernel
theorem dL_types_241 : decode cL_types 241 = .ok (.bipush 15, 2) := by decide +kernel
theorem dL_types_243 : decode cL_types 243 = .ok (.if_icmp .ne 18, 3) := by decide +kernel
theorem dL_types_246 : decode cL_types 246 = .ok (.aload_n 0, 1) := by decide +kernel
theorem dL_types_247 : decode cL_types 247 = .ok (.invokestatic 102, 3) := by decide +kernel
theorem dL_types_250 : decode cL_types 250 = .ok (.bipush (-72), 2) := by decide +kernel
theorem dL_types_252 : decode cL_types 252 = .ok (.if_icmp .ne 7, 3) := by decide +kernel
theorem dL_types_255 : decode cL_types 255 = .ok (.iconst 1, 1) := by decide +kernel
theorem dL_types_256 : decode cL_types 256 = .ok (.goto 4, 3) := by decide +kernel
theorem dL_types_259 : decode cL_types 259 = .ok (.iconst 0, 1) := by decide +kernel
theorem dL_types_260 : decode cL_types 260 = .ok (.ireturn, 1) := by decide +kernel
theorem dL_types_261 : decode cL_types 261 = .ok (.aload_n 3, 1) := by decide +kernel
theorem dL_types_262 : decode cL_types 262 = .ok (.iconst 0, 1) := by decide +kernel
theorem dL_types_263 : decode cL_types 263 = .ok (.laload, 1) := by decide +kernel
theorem dL_types_264 : decode cL_types 264 = .ok (.invokestatic 73, 3) := by decide +kernel
theorem dL_types_267 : decode cL_types 267 = .ok (.ifCond .le 43, 3) := by decide +kernel
theorem dL_types_270 : decode cL_types 270 = .ok (.aload 4, 2) := by decide +kernel
theorem dL_types_272 : decode cL_types 272 = .ok (.aload 10, 2) := by decide +kernel
theorem dL_types_274 : decode cL_types 274 = .ok (.iconst 2, 1) := by decide +kernel
theorem dL_types_275 : decode cL_types 275 = .ok (.iaload, 1) := by decide +kernel
theorem dL_types_276 : decode cL_types 276 = .ok (.aload 10, 2) := by decide +kernel
theorem dL_types_278 : decode cL_types 278 = .ok (.iconst 3, 1) := by decide +kernel
theorem dL_types_279 : decode cL_types 279 = .ok (.iaload, 1) := by decide +kernel
theorem dL_types_280 : decode cL_types 280 = .ok (.iadd, 1) := by decide +kernel
theorem dL_types_281 : decode cL_types 281 = .ok (.aload_n 3, 1) := by decide +kernel
theorem dL_types_282 : decode cL_types 282 = .ok (.iconst 0, 1) := by decide +kernel
theorem dL_types_283 : decode cL_types 283 = .ok (.laload, 1) := by decide +kernel
theorem dL_types_284 : decode cL_types 284 = .ok (.lastore, 1) := by decide +kernel
theorem dL_types_285 : decode cL_types 285 = .ok (.aload 5, 2) := by decide +kernel
theorem dL_types_287 : decode cL_types 287 = .ok (.aload 10, 2) := by decide +kernel
theorem dL_types_289 : decode cL_types 289 = .ok (.iconst 2, 1) := by decide +kernel
theorem dL_types_290 : decode cL_types 290 = .ok (.iaload, 1) := by decide +kernel
theorem dL_types_291 : decode cL_types 291 = .ok (.aload 10, 2) := by decide +kernel
theorem dL_types_293 : decode cL_types 293 = .ok (.iconst 3, 1) := by decide +kernel
theorem dL_types_294 : decode cL_types 294 = .ok (.iaload, 1) := by decide +kernel
theorem dL_types_295 : decode cL_types 295 = .ok (.iadd, 1) := by decide +kernel
theorem dL_types_296 : decode cL_types 296 = .ok (.iconst 1, 1) := by decide +kernel
theorem dL_types_297 : decode cL_types 297 = .ok (.iastore, 1) := by decide +kernel
theorem dL_types_298 : decode cL_types 298 = .ok (.aload_n 3, 1) := by decide +kernel
theorem dL_types_299 : decode cL_types 299 = .ok (.iconst 0, 1) := by decide +kernel
theorem dL_types_300 : decode cL_types 300 = .ok (.lconst 0, 1) := by decide +kernel
theorem dL_types_301 : decode cL_types 301 = .ok (.lastore, 1) := by decide +kernel
theorem dL_types_302 : decode cL_types 302 = .ok (.aload 10, 2) := by decide +kernel
theorem dL_types_304 : decode cL_types 304 = .ok (.iconst 3, 1) := by decide +kernel
theorem dL_types_305 : decode cL_types 305 = .ok (.dup2, 1) := by decide +kernel
theorem dL_types_306 : decode cL_types 306 = .ok (.iaload, 1) := by decide +kernel
theorem dL_types_307 : decode cL_types 307 = .ok (.iconst 1, 1) := by decide +kernel
theorem dL_types_308 : decode cL_types 308 = .ok (.iadd, 1) := by decide +kernel
theorem dL_types_309 : decode cL_types 309 = .ok (.iastore, 1) := by decide +kernel
theorem dL_types_310 : decode cL_types 310 = .ok (.aload 4, 2) := by decide +kernel
theorem dL_types_312 : decode cL_types 312 = .ok (.aload 6, 2) := by decide +kernel
theorem dL_types_314 : decode cL_types 314 = .ok (.aload 7, 2) := by decide +kernel
theorem dL_types_316 : decode cL_types 316 = .ok (.aload 8, 2) := by decide +kernel
theorem dL_types_318 : decode cL_types 318 = .ok (.aload 9, 2) := by decide +kernel
theorem dL_types_320 : decode cL_types 320 = .ok (.aload 10, 2) := by decide +kernel
theorem dL_types_322 : decode cL_types 322 = .ok (.invokestatic 105, 3) := by decide +kernel
theorem dL_types_325 : decode cL_types 325 = .ok (.aload_n 0, 1) := by decide +kernel
theorem dL_types_326 : decode cL_types 326 = .ok (.invokestatic 102, 3) := by decide +kernel
theorem dL_types_329 : decode cL_types 329 = .ok (.aload 10, 2) := by decide +kernel
theorem dL_types_331 : decode cL_types 331 = .ok (.iconst 4, 1) := by decide +kernel
theorem dL_types_332 : decode cL_types 332 = .ok (.iaload, 1) := by decide +kernel
theorem dL_types_333 : decode cL_types 333 = .ok (.iconst 1, 1) := by decide +kernel
theorem dL_types_334 : decode cL_types 334 = .ok (.isub, 1) := by decide +kernel
theorem dL_types_335 : decode cL_types 335 = .ok (.if_icmp .ne 7, 3) := by decide +kernel
theorem dL_types_338 : decode cL_types 338 = .ok (.iconst 1, 1) := by decide +kernel
theorem dL_types_339 : decode cL_types 339 = .ok (.goto 4, 3) := by decide +kernel
theorem dL_types_342 : decode cL_types 342 = .ok (.iconst 0, 1) := by decide +kernel
theorem dL_types_343 : decode cL_types 343 = .ok (.ireturn, 1) := by decide +kernel
theorem dL_acts_0 : decode cL_acts 0 = .ok (.iload_n 1, 1) := by decide +kernel
theorem dL_acts_1 : decode cL_acts 1 = .ok (.ifCond .ne 118, 3) := by decide +kernel
theorem dL_acts_4 : decode cL_acts 4 = .ok (.iload_n 2, 1) := by decide +kernel
theorem dL_acts_5 : decode cL_acts 5 = .ok (.bipush 6, 2) := by decide +kernel
theorem dL_acts_7 : decode cL_acts 7 = .ok (.iand, 1) := by decide +kernel
theorem dL_acts_8 : decode cL_acts 8 = .ok (.ifCond .ne 17, 3) := by decide +kernel
theorem dL_acts_11 : decode cL_acts 11 = .ok (.iconst 1, 1) := by decide +kernel
theorem dL_acts_12 : decode cL_acts 12 = .ok (.iload_n 2, 1) := by decide +kernel
theorem dL_acts_13 : decode cL_acts 13 = .ok (.iconst 3, 1) := by decide +kernel
theorem dL_acts_14 : decode cL_acts 14 = .ok (.ishr, 1) := by decide +kernel
theorem dL_acts_15 : decode cL_acts 15 = .ok (.sipush 1000, 3) := by decide +kernel
theorem dL_acts_18 : decode cL_acts 18 = .ok (.invokestatic 90, 3) := by decide +kernel
theorem dL_acts_21 : decode cL_acts 21 = .ok (.iadd, 1) := by decide +kernel
theorem dL_acts_22 : decode cL_acts 22 = .ok (.goto 13, 3) := by decide +kernel
theorem dL_acts_25 : decode cL_acts 25 = .ok (.iconst 1, 1) := by decide +kernel
theorem dL_acts_26 : decode cL_acts 26 = .ok (.iload_n 2, 1) := by decide +kernel
theorem dL_acts_27 : decode cL_acts 27 = .ok (.iconst 3, 1) := by decide +kernel
theorem dL_acts_28 : decode cL_acts 28 = .ok (.ishr, 1) := by decide +kernel
theorem dL_acts_29 : decode cL_acts 29 = .ok (.bipush 60, 2) := by decide +kernel
theorem dL_acts_31 : decode cL_acts 31 = .ok (.invokestatic 90, 3) := by decide +kernel
theorem dL_acts_34 : decode cL_acts 34 = .ok (.iadd, 1) := by decide +kernel
theorem dL_acts_35 : decode cL_acts 35 = .ok (.istore 13, 2) := by decide +kernel
theorem dL_acts_37 : decode cL_acts 37 = .ok (.aload_n 0, 1) := by decide +kernel
theorem dL_acts_38 : decode cL_acts 38 = .ok (.iconst 0, 1) := by decide +kernel
theorem dL_acts_39 : decode cL_acts 39 = .ok (.invokestatic 109, 3) := by decide +kernel
theorem dL_acts_42 : decode cL_acts 42 = .ok (.bipush (-71), 2) := by decide +kernel
theorem dL_acts_44 : decode cL_acts 44 = .ok (.if_icmp .ne 15, 3) := by decide +kernel
theorem dL_acts_47 : decode cL_acts 47 = .ok (.aload_n 0, 1) := by decide +kernel
theorem dL_acts_48 : decode cL_acts 48 = .ok (.sipush 1001, 3) := by decide +kernel
theorem dL_acts_51 : decode cL_acts 51 = .ok (.invokestatic 109, 3) := by decide +kernel
theorem dL_acts_54 : decode cL_acts 54 = .ok (.bipush (-71), 2) := by decide +kernel
theorem dL_acts_56 : decode cL_acts 56 = .ok (.if_icmp .eq 5, 3) := by decide +kernel
theorem dL_acts_59 : decode cL_acts 59 = .ok (.iconst 0, 1) := by decide +kernel
theorem dL_acts_60 : decode cL_acts 60 = .ok (.ireturn, 1) := by decide +kernel
theorem dL_acts_61 : decode cL_acts 61 = .ok (.aload 12, 2) := by decide +kernel
theorem dL_acts_63 : decode cL_acts 63 = .ok (.iconst 0, 1) := by decide +kernel
theorem dL_acts_64 : decode cL_acts 64 = .ok (.iaload, 1) := by decide +kernel
theorem dL_acts_65 : decode cL_acts 65 = .ok (.iload 13, 2) := by decide +kernel
theorem dL_acts_67 : decode cL_acts 67 = .ok (.iadd, 1) := by decide +kernel
theorem dL_acts_68 : decode cL_acts 68 = .ok (.sipush 9999, 3) := by decide +kernel
theorem dL_acts_71 : decode cL_acts 71 = .ok (.if_icmp .le 20, 3) := by decide +kernel
theorem dL_acts_74 : decode cL_acts 74 = .ok (.aload_n 0, 1) := by decide +kernel
theorem dL_acts_75 : decode cL_acts 75 = .ok (.iload 13, 2) := by decide +kernel
theorem dL_acts_77 : decode cL_acts 77 = .ok (.invokestatic 109, 3) := by decide +kernel
theorem dL_acts_80 : decode cL_acts 80 = .ok (.bipush (-72), 2) := by decide +kernel
theorem dL_acts_82 : decode cL_acts 82 = .ok (.if_icmp .ne 7, 3) := by decide +kernel
theorem dL_acts_85 : decode cL_acts 85 = .ok (.iconst 1, 1) := by decide +kernel
theorem dL_acts_86 : decode cL_acts 86 = .ok (.goto 4, 3) := by decide +kernel
theorem dL_acts_89 : decode cL_acts 89 = .ok (.iconst 0, 1) := by decide +kernel
theorem dL_acts_90 : decode cL_acts 90 = .ok (.ireturn, 1) := by decide +kernel
theorem dL_acts_91 : decode cL_acts 91 = .ok (.aload 12, 2) := by decide +kernel
theorem dL_acts_93 : decode cL_acts 93 = .ok (.iconst 0, 1) := by decide +kernel
theorem dL_acts_94 : decode cL_acts 94 = .ok (.dup2, 1) := by decide +kernel
theorem dL_acts_95 : decode cL_acts 95 = .ok (.iaload, 1) := by decide +kernel
theorem dL_acts_96 : decode cL_acts 96 = .ok (.iload 13, 2) := by decide +kernel
theorem dL_acts_98 : decode cL_acts 98 = .ok (.iadd, 1) := by decide +kernel
theorem dL_acts_99 : decode cL_acts 99 = .ok (.iastore, 1) := by decide +kernel
theorem dL_acts_100 : decode cL_acts 100 = .ok (.aload_n 0, 1) := by decide +kernel
theorem dL_acts_101 : decode cL_acts 101 = .ok (.iload 13, 2) := by decide +kernel
theorem dL_acts_103 : decode cL_acts 103 = .ok (.invokestatic 109, 3) := by decide +kernel
theorem dL_acts_106 : decode cL_acts 106 = .ok (.aload 12, 2) := by decide +kernel
theorem dL_acts_108 : decode cL_acts 108 = .ok (.iconst 0, 1) := by decide +kernel
theorem dL_acts_109 : decode cL_acts 109 = .ok (.iaload, 1) := by decide +kernel
theorem dL_acts_110 : decode cL_acts 110 = .ok (.if_icmp .ne 7, 3) := by decide +kernel
theorem dL_acts_113 : decode cL_acts 113 = .ok (.iconst 1, 1) := by decide +kernel
theorem dL_acts_114 : decode cL_acts 114 = .ok (.goto 4, 3) := by decide +kernel
theorem dL_acts_117 : decode cL_acts 117 = .ok (.iconst 0, 1) := by decide +kernel
theorem dL_acts_118 : decode cL_acts 118 = .ok (.ireturn, 1) := by decide +kernel
theorem dL_acts_119 : decode cL_acts 119 = .ok (.iload_n 1, 1) := by decide +kernel
theorem dL_acts_120 : decode cL_acts 120 = .ok (.iconst 1, 1) := by decide +kernel
theorem dL_acts_121 : decode cL_acts 121 = .ok (.if_icmp .ne 215, 3) := by decide +kernel
theorem dL_acts_124 : decode cL_acts 124 = .ok (.iload_n 3, 1) := by decide +kernel
theorem dL_acts_125 : decode cL_acts 125 = .ok (.bipush 6, 2) := by decide +kernel
theorem dL_acts_127 : decode cL_acts 127 = .ok (.iand, 1) := by decide +kernel
theorem dL_acts_128 : decode cL_acts 128 = .ok (.ifCond .ne 15, 3) := by decide +kernel
theorem dL_acts_131 : decode cL_acts 131 = .ok (.iload_n 3, 1) := by decide +kernel
theorem dL_acts_132 : decode cL_acts 132 = .ok (.iconst 3, 1) := by decide +kernel
theorem dL_acts_133 : decode cL_acts 133 = .ok (.ishr, 1) := by decide +kernel
theorem dL_acts_134 : decode cL_acts 134 = .ok (.sipush 10000, 3) := by decide +kernel
theorem dL_acts_137 : decode cL_acts 137 = .ok (.invokestatic 90, 3) := by decide +kernel
theorem dL_acts_140 : decode cL_acts 140 = .ok (.goto 16, 3) := by decide +kernel
theorem dL_acts_143 : decode cL_acts 143 = .ok (.aload 12, 2) := by decide +kernel
theorem dL_acts_145 : decode cL_acts 145 = .ok (.iconst 0, 1) := by decide +kernel
theorem dL_acts_146 : decode cL_acts 146 = .ok (.iaload, 1) := by decide +kernel
theorem dL_acts_147 : decode cL_acts 147 = .ok (.iload_n 3, 1) := by decide +kernel
theorem dL_acts_148 : decode cL_acts 148 = .ok (.iconst 3, 1) := by decide +kernel
theorem dL_acts_149 : decode cL_acts 149 = .ok (.ishr, 1) := by decide +kernel
theorem dL_acts_150 : decode cL_acts 150 = .ok (.bipush 50, 2) := by decide +kernel
theorem dL_acts_152 : decode cL_acts 152 = .ok (.invokestatic 90, 3) := by decide +kernel
theorem dL_acts_155 : decode cL_acts 155 = .ok (.iadd, 1) := by decide +kernel
theorem dL_acts_156 : decode cL_acts 156 = .ok (.istore 13, 2) := by decide +kernel
theorem dL_acts_158 : decode cL_acts 158 = .ok (.iload 13, 2) := by decide +kernel
theorem dL_acts_160 : decode cL_acts 160 = .ok (.sipush 9999, 3) := by decide +kernel
theorem dL_acts_163 : decode cL_acts 163 = .ok (.if_icmp .le 9, 3) := by decide +kernel
theorem dL_acts_166 : decode cL_acts 166 = .ok (.sipush 9999, 3) := by decide +kernel
theorem dL_acts_169 : decode cL_acts 169 = .ok (.goto 5, 3) := by decide +kernel
theorem dL_acts_172 : decode cL_acts 172 = .ok (.iload 13, 2) := by decide +kernel
theorem dL_acts_174 : decode cL_acts 174 = .ok (.istore 13, 2) := by decide +kernel
theorem dL_acts_176 : decode cL_acts 176 = .ok (.iload_n 2, 1) := by decide +kernel
theorem dL_acts_177 : decode cL_acts 177 = .ok (.iconst 4, 1) := by decide +kernel
theorem dL_acts_178 : decode cL_acts 178 = .ok (.invokestatic 90, 3) := by decide +kernel
theorem dL_acts_181 : decode cL_acts 181 = .ok (.istore 14, 2) := by decide +kernel
theorem dL_acts_183 : decode cL_acts 183 = .ok (.iload_n 2, 1) := by decide +kernel
theorem dL_acts_184 : decode cL_acts 184 = .ok (.iconst 3, 1) := by decide +kernel
theorem dL_acts_185 : decode cL_acts 185 = .ok (.ishr, 1) := by decide +kernel
theorem dL_acts_186 : decode cL_acts 186 = .ok (.bipush 8, 2) := by decide +kernel
theorem dL_acts_188 : decode cL_acts 188 = .ok (.invokestatic 90, 3) := by decide +kernel
theorem dL_acts_191 : decode cL_acts 191 = .ok (.istore 15, 2) := by decide +kernel
theorem dL_acts_193 : decode cL_acts 193 = .ok (.aload_n 0, 1) := by decide +kernel
theorem dL_acts_194 : decode cL_acts 194 = .ok (.sipush 10000, 3) := by decide +kernel
theorem dL_acts_197 : decode cL_acts 197 = .ok (.iload 14, 2) := by decide +kernel
theorem dL_acts_199 : decode cL_acts 199 = .ok (.iload 15, 2) := by decide +kernel
theorem dL_acts_201 : decode cL_acts 201 = .ok (.invokestatic 111, 3) := by decide +kernel
theorem dL_acts_204 : decode cL_acts 204 = .ok (.bipush (-71), 2) := by decide +kernel
theorem dL_acts_206 : decode cL_acts 206 = .ok (.if_icmp .ne 46, 3) := by decide +kernel
theorem dL_acts_209 : decode cL_acts 209 = .ok (.aload_n 0, 1) := by decide +kernel
theorem dL_acts_210 : decode cL_acts 210 = .ok (.iconst (-1), 1) := by decide +kernel
theorem dL_acts_211 : decode cL_acts 211 = .ok (.iload 14, 2) := by decide +kernel
theorem dL_acts_213 : decode cL_acts 213 = .ok (.iload 15, 2) := by decide +kernel
theorem dL_acts_215 : decode cL_acts 215 = .ok (.invokestatic 111, 3) := by decide +kernel
theorem dL_acts_218 : decode cL_acts 218 = .ok (.bipush (-71), 2) := by decide +kernel
theorem dL_acts_220 : decode cL_acts 220 = .ok (.if_icmp .ne 32, 3) := by decide +kernel
theorem dL_acts_223 : decode cL_acts 223 = .ok (.aload_n 0, 1) := by decide +kernel
theorem dL_acts_224 : decode cL_acts 224 = .ok (.iload 13, 2) := by decide +kernel
theorem dL_acts_226 : decode cL_acts 226 = .ok (.bipush 8, 2) := by decide +kernel
theorem dL_acts_228 : decode cL_acts 228 = .ok (.iload 15, 2) := by decide +kernel
theorem dL_acts_230 : decode cL_acts 230 = .ok (.invokestatic 111, 3) := by decide +kernel
theorem dL_acts_233 : decode cL_acts 233 = .ok (.bipush (-71), 2) := by decide +kernel
theorem dL_acts_235 : decode cL_acts 235 = .ok (.if_icmp .ne 17, 3) := by decide +kernel
theorem dL_acts_238 : decode cL_acts 238 = .ok (.aload_n 0, 1) := by decide +kernel
theorem dL_acts_239 : decode cL_acts 239 = .ok (.iload 13, 2) := by decide +kernel
theorem dL_acts_241 : decode cL_acts 241 = .ok (.iload 14, 2) := by decide +kernel
theorem dL_acts_243 : decode cL_acts 243 = .ok (.iconst (-1), 1) := by decide +kernel
theorem dL_acts_244 : decode cL_acts 244 = .ok (.invokestatic 111, 3) := by decide +kernel
theorem dL_acts_247 : decode cL_acts 247 = .ok (.bipush (-71), 2) := by decide +kernel
theorem dL_acts_249 : decode cL_acts 249 = .ok (.if_icmp .eq 5, 3) := by decide +kernel
theorem dL_acts_252 : decode cL_acts 252 = .ok (.iconst 0, 1) := by decide +kernel
theorem dL_acts_253 : decode cL_acts 253 = .ok (.ireturn, 1) := by decide +kernel
theorem dL_acts_254 : decode cL_acts 254 = .ok (.aload 12, 2) := by decide +kernel
theorem dL_acts_256 : decode cL_acts 256 = .ok (.iconst 1, 1) := by decide +kernel
theorem dL_acts_257 : decode cL_acts 257 = .ok (.iaload, 1) := by decide +kernel
theorem dL_acts_258 : decode cL_acts 258 = .ok (.bipush 10, 2) := by decide +kernel
theorem dL_acts_260 : decode cL_acts 260 = .ok (.if_icmp .ne 24, 3) := by decide +kernel
theorem dL_acts_263 : decode cL_acts 263 = .ok (.aload_n 0, 1) := by decide +kernel
theorem dL_acts_264 : decode cL_acts 264 = .ok (.iload 13, 2) := by decide +kernel
theorem dL_acts_266 : decode cL_acts 266 = .ok (.iload 14, 2) := by decide +kernel
theorem dL_acts_268 : decode cL_acts 268 = .ok (.iload 15, 2) := by decide +kernel
theorem dL_acts_270 : decode cL_acts 270 = .ok (.invokestatic 111, 3) := by decide +kernel
theorem dL_acts_273 : decode cL_acts 273 = .ok (.bipush (-72), 2) := by decide +kernel
theorem dL_acts_275 : decode cL_acts 275 = .ok (.if_icmp .ne 7, 3) := by decide +kernel
theorem dL_acts_278 : decode cL_acts 278 = .ok (.iconst 1, 1) := by decide +kernel
theorem dL_acts_279 : decode cL_acts 279 = .ok (.goto 4, 3) := by decide +kernel
theorem dL_acts_282 : decode cL_acts 282 = .ok (.iconst 0, 1) := by decide +kernel
theorem dL_acts_283 : decode cL_acts 283 = .ok (.ireturn, 1) := by decide +kernel
theorem dL_acts_284 : decode cL_acts 284 = .ok (.aload 6, 2) := by decide +kernel
theorem dL_acts_286 : decode cL_acts 286 = .ok (.aload 12, 2) := by decide +kernel
theorem dL_acts_288 : decode cL_acts 288 = .ok (.iconst 1, 1) := by decide +kernel
theorem dL_acts_289 : decode cL_acts 289 = .ok (.iaload, 1) := by decide +kernel
theorem dL_acts_290 : decode cL_acts 290 = .ok (.bipush 64, 2) := by decide +kernel
theorem dL_acts_292 : decode cL_acts 292 = .ok (.iload 13, 2) := by decide +kernel
theorem dL_acts_294 : decode cL_acts 294 = .ok (.imul, 1) := by decide +kernel
theorem dL_acts_295 : decode cL_acts 295 = .ok (.bipush 8, 2) := by decide +kernel
theorem dL_acts_297 : decode cL_acts 297 = .ok (.iload 14, 2) := by decide +kernel
theorem dL_acts_299 : decode cL_acts 299 = .ok (.imul, 1) := by decide +kernel
theorem dL_acts_300 : decode cL_acts 300 = .ok (.iadd, 1) := by decide +kernel
theorem dL_acts_301 : decode cL_acts 301 = .ok (.iload 15, 2) := by decide +kernel
theorem dL_acts_303 : decode cL_acts 303 = .ok (.iadd, 1) := by decide +kernel
theorem dL_acts_304 : decode cL_acts 304 = .ok (.iastore, 1) := by decide +kernel
theorem dL_acts_305 : decode cL_acts 305 = .ok (.aload 12, 2) := by decide +kernel
theorem dL_acts_307 : decode cL_acts 307 = .ok (.iconst 1, 1) := by decide +kernel
theorem dL_acts_308 : decode cL_acts 308 = .ok (.dup2, 1) := by decide +kernel
theorem dL_acts_309 : decode cL_acts 309 = .ok (.iaload, 1) := by decide +kernel
theorem dL_acts_310 : decode cL_acts 310 = .ok (.iconst 1, 1) := by decide +kernel
theorem dL_acts_311 : decode cL_acts 311 = .ok (.iadd, 1) := by decide +kernel
theorem dL_acts_312 : decode cL_acts 312 = .ok (.iastore, 1) := by decide +kernel
theorem dL_acts_313 : decode cL_acts 313 = .ok (.aload_n 0, 1) := by decide +kernel
theorem dL_acts_314 : decode cL_acts 314 = .ok (.iload 13, 2) := by decide +kernel
theorem dL_acts_316 : decode cL_acts 316 = .ok (.iload 14, 2) := by decide +kernel
theorem dL_acts_318 : decode cL_acts 318 = .ok (.iload 15, 2) := by decide +kernel
theorem dL_acts_320 : decode cL_acts 320 = .ok (.invokestatic 111, 3) := by decide +kernel
theorem dL_acts_323 : decode cL_acts 323 = .ok (.aload 12, 2) := by decide +kernel
theorem dL_acts_325 : decode cL_acts 325 = .ok (.iconst 1, 1) := by decide +kernel
theorem dL_acts_326 : decode cL_acts 326 = .ok (.iaload, 1) := by decide +kernel
theorem dL_acts_327 : decode cL_acts 327 = .ok (.if_icmp .ne 7, 3) := by decide +kernel
theorem dL_acts_330 : decode cL_acts 330 = .ok (.iconst 1, 1) := by decide +kernel
theorem dL_acts_331 : decode cL_acts 331 = .ok (.goto 4, 3) := by decide +kernel
theorem dL_acts_334 : decode cL_acts 334 = .ok (.iconst 0, 1) := by decide +kernel
theorem dL_acts_335 : decode cL_acts 335 = .ok (.ireturn, 1) := by decide +kernel
theorem dL_acts_336 : decode cL_acts 336 = .ok (.iload_n 1, 1) := by decide +kernel
theorem dL_acts_337 : decode cL_acts 337 = .ok (.iconst 2, 1) := by decide +kernel
theorem dL_acts_338 : decode cL_acts 338 = .ok (.if_icmp .ne 196, 3) := by decide +kernel
theorem dL_acts_341 : decode cL_acts 341 = .ok (.iload_n 2, 1) := by decide +kernel
theorem dL_acts_342 : decode cL_acts 342 = .ok (.aload 12, 2) := by decide +kernel
theorem dL_acts_344 : decode cL_acts 344 = .ok (.iconst 4, 1) := by decide +kernel
theorem dL_acts_345 : decode cL_acts 345 = .ok (.iaload, 1) := by decide +kernel
theorem dL_acts_346 : decode cL_acts 346 = .ok (.iconst 1, 1) := by decide +kernel
theorem dL_acts_347 : decode cL_acts 347 = .ok (.iadd, 1) := by decide +kernel
theorem dL_acts_348 : decode cL_acts 348 = .ok (.invokestatic 90, 3) := by decide +kernel
theorem dL_acts_351 : decode cL_acts 351 = .ok (.istore 13, 2) := by decide +kernel
theorem dL_acts_353 : decode cL_acts 353 = .ok (.iload 13, 2) := by decide +kernel
theorem dL_acts_355 : decode cL_acts 355 = .ok (.aload 12, 2) := by decide +kernel
theorem dL_acts_357 : decode cL_acts 357 = .ok (.iconst 4, 1) := by decide +kernel
theorem dL_acts_358 : decode cL_acts 358 = .ok (.iaload, 1) := by decide +kernel
theorem dL_acts_359 : decode cL_acts 359 = .ok (.if_icmp .ne 35, 3) := by decide +kernel
theorem dL_acts_362 : decode cL_acts 362 = .ok (.aload_n 0, 1) := by decide +kernel
theorem dL_acts_363 : decode cL_acts 363 = .ok (.iload 13, 2) := by decide +kernel
theorem dL_acts_365 : decode cL_acts 365 = .ok (.iconst 0, 1) := by decide +kernel
theorem dL_acts_366 : decode cL_acts 366 = .ok (.bipush 10, 2) := by decide +kernel
theorem dL_acts_368 : decode cL_acts 368 = .ok (.invokestatic 114, 3) := by decide +kernel
theorem dL_acts_371 : decode cL_acts 371 = .ok (.bipush (-73), 2) := by decide +kernel
theorem dL_acts_373 : decode cL_acts 373 = .ok (.if_icmp .ne 19, 3) := by decide +kernel
theorem dL_acts_376 : decode cL_acts 376 = .ok (.aload_n 0, 1) := by decide +kernel
theorem dL_acts_377 : decode cL_acts 377 = .ok (.iconst (-1), 1) := by decide +kernel
theorem dL_acts_378 : decode cL_acts 378 = .ok (.iconst 0, 1) := by decide +kernel
theorem dL_acts_379 : decode cL_acts 379 = .ok (.iconst 1, 1) := by decide +kernel
theorem dL_acts_380 : decode cL_acts 380 = .ok (.invokestatic 114, 3) := by decide +kernel
theorem dL_acts_383 : decode cL_acts 383 = .ok (.bipush (-73), 2) := by decide +kernel
theorem dL_acts_385 : decode cL_acts 385 = .ok (.if_icmp .ne 7, 3) := by decide +kernel
theorem dL_acts_388 : decode cL_acts 388 = .ok (.iconst 1, 1) := by decide +kernel
theorem dL_acts_389 : decode cL_acts 389 = .ok (.goto 4, 3) := by decide +kernel
theorem dL_acts_392 : decode cL_acts 392 = .ok (.iconst 0, 1) := by decide +kernel
theorem dL_acts_393 : decode cL_acts 393 = .ok (.ireturn, 1) := by decide +kernel
theorem dL_acts_394 : decode cL_acts 394 = .ok (.aload 5, 2) := by decide +kernel
theorem dL_acts_396 : decode cL_acts 396 = .ok (.iload 13, 2) := by decide +kernel
theorem dL_acts_398 : decode cL_acts 398 = .ok (.iaload, 1) := by decide +kernel
theorem dL_acts_399 : decode cL_acts 399 = .ok (.bipush 6, 2) := by decide +kernel
theorem dL_acts_401 : decode cL_acts 401 = .ok (.ishr, 1) := by decide +kernel
theorem dL_acts_402 : decode cL_acts 402 = .ok (.bipush 63, 2) := by decide +kernel
theorem dL_acts_404 : decode cL_acts 404 = .ok (.iand, 1) := by decide +kernel
theorem dL_acts_405 : decode cL_acts 405 = .ok (.istore 14, 2) := by decide +kernel
theorem dL_acts_407 : decode cL_acts 407 = .ok (.iload_n 2, 1) := by decide +kernel
theorem dL_acts_408 : decode cL_acts 408 = .ok (.iconst 5, 1) := by decide +kernel
theorem dL_acts_409 : decode cL_acts 409 = .ok (.ishr, 1) := by decide +kernel
theorem dL_acts_410 : decode cL_acts 410 = .ok (.iload 14, 2) := by decide +kernel
theorem dL_acts_412 : decode cL_acts 412 = .ok (.invokestatic 90, 3) := by decide +kernel
theorem dL_acts_415 : decode cL_acts 415 = .ok (.istore 15, 2) := by decide +kernel
theorem dL_acts_417 : decode cL_acts 417 = .ok (.iconst 1, 1) := by decide +kernel
theorem dL_acts_418 : decode cL_acts 418 = .ok (.iload_n 3, 1) := by decide +kernel
theorem dL_acts_419 : decode cL_acts 419 = .ok (.bipush 9, 2) := by decide +kernel
theorem dL_acts_421 : decode cL_acts 421 = .ok (.invokestatic 90, 3) := by decide +kernel
theorem dL_acts_424 : decode cL_acts 424 = .ok (.iadd, 1) := by decide +kernel
theorem dL_acts_425 : decode cL_acts 425 = .ok (.istore 16, 2) := by decide +kernel
theorem dL_acts_427 : decode cL_acts 427 = .ok (.iload 15, 2) := by decide +kernel
theorem dL_acts_429 : decode cL_acts 429 = .ok (.istore 17, 2) := by decide +kernel
theorem dL_acts_431 : decode cL_acts 431 = .ok (.iload 17, 2) := by decide +kernel
theorem dL_acts_433 : decode cL_acts 433 = .ok (.iload 14, 2) := by decide +kernel
theorem dL_acts_435 : decode cL_acts 435 = .ok (.if_icmp .ge 28, 3) := by decide +kernel
theorem dL_acts_438 : decode cL_acts 438 = .ok (.aload 4, 2) := by decide +kernel
theorem dL_acts_440 : decode cL_acts 440 = .ok (.aload 5, 2) := by decide +kernel
theorem dL_acts_442 : decode cL_acts 442 = .ok (.iload 13, 2) := by decide +kernel
theorem dL_acts_444 : decode cL_acts 444 = .ok (.iaload, 1) := by decide +kernel
theorem dL_acts_445 : decode cL_acts 445 = .ok (.bipush 63, 2) := by decide +kernel
theorem dL_acts_447 : decode cL_acts 447 = .ok (.iand, 1) := by decide +kernel
theorem dL_acts_448 : decode cL_acts 448 = .ok (.iload 17, 2) := by decide +kernel
theorem dL_acts_450 : decode cL_acts 450 = .ok (.iadd, 1) := by decide +kernel
theorem dL_acts_451 : decode cL_acts 451 = .ok (.dup2, 1) := by decide +kernel
theorem dL_acts_452 : decode cL_acts 452 = .ok (.iaload, 1) := by decide +kernel
theorem dL_acts_453 : decode cL_acts 453 = .ok (.iload 16, 2) := by decide +kernel
theorem dL_acts_455 : decode cL_acts 455 = .ok (.iadd, 1) := by decide +kernel
theorem dL_acts_456 : decode cL_acts 456 = .ok (.iastore, 1) := by decide +kernel
theorem dL_acts_457 : decode cL_acts 457 = .ok (.iinc 17 1, 3) := by decide +kernel
theorem dL_acts_460 : decode cL_acts 460 = .ok (.goto (-29), 3) := by decide +kernel
theorem dL_acts_463 : decode cL_acts 463 = .ok (.aload_n 0, 1) := by decide +kernel
theorem dL_acts_464 : decode cL_acts 464 = .ok (.iload 13, 2) := by decide +kernel
theorem dL_acts_466 : decode cL_acts 466 = .ok (.iload 14, 2) := by decide +kernel
theorem dL_acts_468 : decode cL_acts 468 = .ok (.iload 16, 2) := by decide +kernel
theorem dL_acts_470 : decode cL_acts 470 = .ok (.invokestatic 114, 3) := by decide +kernel
theorem dL_acts_473 : decode cL_acts 473 = .ok (.bipush (-73), 2) := by decide +kernel
theorem dL_acts_475 : decode cL_acts 475 = .ok (.if_icmp .ne 57, 3) := by decide +kernel
theorem dL_acts_478 : decode cL_acts 478 = .ok (.aload_n 0, 1) := by decide +kernel
theorem dL_acts_479 : decode cL_acts 479 = .ok (.iload 13, 2) := by decide +kernel
theorem dL_acts_481 : decode cL_acts 481 = .ok (.iload 15, 2) := by decide +kernel
theorem dL_acts_483 : decode cL_acts 483 = .ok (.iconst 0, 1) := by decide +kernel
theorem dL_acts_484 : decode cL_acts 484 = .ok (.invokestatic 114, 3) := by decide +kernel
theorem dL_acts_487 : decode cL_acts 487 = .ok (.bipush (-71), 2) := by decide +kernel
theorem dL_acts_489 : decode cL_acts 489 = .ok (.if_icmp .ne 43, 3) := by decide +kernel
theorem dL_acts_492 : decode cL_acts 492 = .ok (.aload_n 0, 1) := by decide +kernel
theorem dL_acts_493 : decode cL_acts 493 = .ok (.iload 13, 2) := by decide +kernel
theorem dL_acts_495 : decode cL_acts 495 = .ok (.iload 15, 2) := by decide +kernel
theorem dL_acts_497 : decode cL_acts 497 = .ok (.bipush 10, 2) := by decide +kernel
theorem dL_acts_499 : decode cL_acts 499 = .ok (.invokestatic 114, 3) := by decide +kernel
theorem dL_acts_502 : decode cL_acts 502 = .ok (.bipush (-71), 2) := by decide +kernel
theorem dL_acts_504 : decode cL_acts 504 = .ok (.if_icmp .ne 28, 3) := by decide +kernel
theorem dL_acts_507 : decode cL_acts 507 = .ok (.aload_n 0, 1) := by decide +kernel
theorem dL_acts_508 : decode cL_acts 508 = .ok (.iload 13, 2) := by decide +kernel
theorem dL_acts_510 : decode cL_acts 510 = .ok (.iload 15, 2) := by decide +kernel
theorem dL_acts_512 : decode cL_acts 512 = .ok (.iload 16, 2) := by decide +kernel
theorem dL_acts_514 : decode cL_acts 514 = .ok (.invokestatic 114, 3) := by decide +kernel
theorem dL_acts_517 : decode cL_acts 517 = .ok (.iload 16, 2) := by decide +kernel
theorem dL_acts_519 : decode cL_acts 519 = .ok (.iload 14, 2) := by decide +kernel
theorem dL_acts_521 : decode cL_acts 521 = .ok (.iload 15, 2) := by decide +kernel
theorem dL_acts_523 : decode cL_acts 523 = .ok (.isub, 1) := by decide +kernel
theorem dL_acts_524 : decode cL_acts 524 = .ok (.imul, 1) := by decide +kernel
theorem dL_acts_525 : decode cL_acts 525 = .ok (.if_icmp .ne 7, 3) := by decide +kernel
theorem dL_acts_528 : decode cL_acts 528 = .ok (.iconst 1, 1) := by decide +kernel
theorem dL_acts_529 : decode cL_acts 529 = .ok (.goto 4, 3) := by decide +kernel
theorem dL_acts_532 : decode cL_acts 532 = .ok (.iconst 0, 1) := by decide +kernel
theorem dL_acts_533 : decode cL_acts 533 = .ok (.ireturn, 1) := by decide +kernel
theorem dL_acts_534 : decode cL_acts 534 = .ok (.iload_n 1, 1) := by decide +kernel
theorem dL_acts_535 : decode cL_acts 535 = .ok (.iconst 3, 1) := by decide +kernel
theorem dL_acts_536 : decode cL_acts 536 = .ok (.if_icmp .ne 176, 3) := by decide +kernel
theorem dL_acts_539 : decode cL_acts 539 = .ok (.iload_n 2, 1) := by decide +kernel
theorem dL_acts_540 : decode cL_acts 540 = .ok (.iconst 4, 1) := by decide +kernel
theorem dL_acts_541 : decode cL_acts 541 = .ok (.invokestatic 90, 3) := by decide +kernel
theorem dL_acts_544 : decode cL_acts 544 = .ok (.istore 13, 2) := by decide +kernel
theorem dL_acts_546 : decode cL_acts 546 = .ok (.iload_n 3, 1) := by decide +kernel
theorem dL_acts_547 : decode cL_acts 547 = .ok (.iload_n 3, 1) := by decide +kernel
theorem dL_acts_548 : decode cL_acts 548 = .ok (.bipush 64, 2) := by decide +kernel
theorem dL_acts_550 : decode cL_acts 550 = .ok (.iand, 1) := by decide +kernel
theorem dL_acts_551 : decode cL_acts 551 = .ok (.ifCond .ne 8, 3) := by decide +kernel
theorem dL_acts_554 : decode cL_acts 554 = .ok (.bipush 100, 2) := by decide +kernel
theorem dL_acts_556 : decode cL_acts 556 = .ok (.goto 4, 3) := by decide +kernel
theorem dL_acts_559 : decode cL_acts 559 = .ok (.iconst 4, 1) := by decide +kernel
theorem dL_acts_560 : decode cL_acts 560 = .ok (.invokestatic 90, 3) := by decide +kernel
theorem dL_acts_563 : decode cL_acts 563 = .ok (.istore 14, 2) := by decide +kernel
theorem dL_acts_565 : decode cL_acts 565 = .ok (.iload 14, 2) := by decide +kernel
theorem dL_acts_567 : decode cL_acts 567 = .ok (.iload_n 3, 1) := by decide +kernel
theorem dL_acts_568 : decode cL_acts 568 = .ok (.bipush 8, 2) := by decide +kernel
theorem dL_acts_570 : decode cL_acts 570 = .ok (.ishr, 1) := by decide +kernel
theorem dL_acts_571 : decode cL_acts 571 = .ok (.bipush 100, 2) := by decide +kernel
theorem dL_acts_573 : decode cL_acts 573 = .ok (.iload 14, 2) := by decide +kernel
theorem dL_acts_575 : decode cL_acts 575 = .ok (.isub, 1) := by decide +kernel
theorem dL_acts_576 : decode cL_acts 576 = .ok (.invokestatic 90, 3) := by decide +kernel
theorem dL_acts_579 : decode cL_acts 579 = .ok (.iadd, 1) := by decide +kernel
theorem dL_acts_580 : decode cL_acts 580 = .ok (.istore 15, 2) := by decide +kernel
theorem dL_acts_582 : decode cL_acts 582 = .ok (.iload_n 2, 1) := by decide +kernel
theorem dL_acts_583 : decode cL_acts 583 = .ok (.iconst 3, 1) := by decide +kernel
theorem dL_acts_584 : decode cL_acts 584 = .ok (.ishr, 1) := by decide +kernel
theorem dL_acts_585 : decode cL_acts 585 = .ok (.bipush 9, 2) := by decide +kernel
theorem dL_acts_587 : decode cL_acts 587 = .ok (.invokestatic 90, 3) := by decide +kernel
theorem dL_acts_590 : decode cL_acts 590 = .ok (.iconst 1, 1) := by decide +kernel
theorem dL_acts_591 : decode cL_acts 591 = .ok (.isub, 1) := by decide +kernel
theorem dL_acts_592 : decode cL_acts 592 = .ok (.istore 16, 2) := by decide +kernel
theorem dL_acts_594 : decode cL_acts 594 = .ok (.aload 9, 2) := by decide +kernel
theorem dL_acts_596 : decode cL_acts 596 = .ok (.iload 13, 2) := by decide +kernel
theorem dL_acts_598 : decode cL_acts 598 = .ok (.iload 14, 2) := by decide +kernel
theorem dL_acts_600 : decode cL_acts 600 = .ok (.sipush 128, 3) := by decide +kernel
theorem dL_acts_603 : decode cL_acts 603 = .ok (.iload 15, 2) := by decide +kernel
theorem dL_acts_605 : decode cL_acts 605 = .ok (.imul, 1) := by decide +kernel
theorem dL_acts_606 : decode cL_acts 606 = .ok (.iadd, 1) := by decide +kernel
theorem dL_acts_607 : decode cL_acts 607 = .ok (.sipush 16384, 3) := by decide +kernel
theorem dL_acts_610 : decode cL_acts 610 = .ok (.iload 16, 2) := by decide +kernel
theorem dL_acts_612 : decode cL_acts 612 = .ok (.iconst 1, 1) := by decide +kernel
theorem dL_acts_613 : decode cL_acts 613 = .ok (.iadd, 1) := by decide +kernel
theorem dL_acts_614 : decode cL_acts 614 = .ok (.imul, 1) := by decide +kernel
theorem dL_acts_615 : decode cL_acts 615 = .ok (.iadd, 1) := by decide +kernel
theorem dL_acts_616 : decode cL_acts 616 = .ok (.iastore, 1) := by decide +kernel
theorem dL_acts_617 : decode cL_acts 617 = .ok (.aload_n 0, 1) := by decide +kernel
theorem dL_acts_618 : decode cL_acts 618 = .ok (.iconst 4, 1) := by decide +kernel
theorem dL_acts_619 : decode cL_acts 619 = .ok (.iconst 0, 1) := by decide +kernel
theorem dL_acts_620 : decode cL_acts 620 = .ok (.iconst 0, 1) := by decide +kernel
theorem dL_acts_621 : decode cL_acts 621 = .ok (.iconst 0, 1) := by decide +kernel
theorem dL_acts_622 : decode cL_acts 622 = .ok (.invokestatic 116, 3) := by decide +kernel
theorem dL_acts_625 : decode cL_acts 625 = .ok (.bipush (-71), 2) := by decide +kernel
theorem dL_acts_627 : decode cL_acts 627 = .ok (.if_icmp .ne 83, 3) := by decide +kernel
theorem dL_acts_630 : decode cL_acts 630 = .ok (.aload_n 0, 1) := by decide +kernel
theorem dL_acts_631 : decode cL_acts 631 = .ok (.iload 13, 2) := by decide +kernel
theorem dL_acts_633 : decode cL_acts 633 = .ok (.iconst 5, 1) := by decide +kernel
theorem dL_acts_634 : decode cL_acts 634 = .ok (.iconst 4, 1) := by decide +kernel
theorem dL_acts_635 : decode cL_acts 635 = .ok (.iconst 0, 1) := by decide +kernel
theorem dL_acts_636 : decode cL_acts 636 = .ok (.invokestatic 116, 3) := by decide +kernel
theorem dL_acts_639 : decode cL_acts 639 = .ok (.bipush (-71), 2) := by decide +kernel
theorem dL_acts_641 : decode cL_acts 641 = .ok (.if_icmp .ne 69, 3) := by decide +kernel
theorem dL_acts_644 : decode cL_acts 644 = .ok (.aload_n 0, 1) := by decide +kernel
theorem dL_acts_645 : decode cL_acts 645 = .ok (.iload 13, 2) := by decide +kernel
theorem dL_acts_647 : decode cL_acts 647 = .ok (.iconst 0, 1) := by decide +kernel
theorem dL_acts_648 : decode cL_acts 648 = .ok (.bipush 100, 2) := by decide +kernel
theorem dL_acts_650 : decode cL_acts 650 = .ok (.iconst 0, 1) := by decide +kernel
theorem dL_acts_651 : decode cL_acts 651 = .ok (.invokestatic 116, 3) := by decide +kernel
theorem dL_acts_654 : decode cL_acts 654 = .ok (.bipush (-71), 2) := by decide +kernel
theorem dL_acts_656 : decode cL_acts 656 = .ok (.if_icmp .ne 54, 3) := by decide +kernel
theorem dL_acts_659 : decode cL_acts 659 = .ok (.aload_n 0, 1) := by decide +kernel
theorem dL_acts_660 : decode cL_acts 660 = .ok (.iload 13, 2) := by decide +kernel
theorem dL_acts_662 : decode cL_acts 662 = .ok (.iconst 0, 1) := by decide +kernel
theorem dL_acts_663 : decode cL_acts 663 = .ok (.bipush 9, 2) := by decide +kernel
theorem dL_acts_665 : decode cL_acts 665 = .ok (.bipush 8, 2) := by decide +kernel
theorem dL_acts_667 : decode cL_acts 667 = .ok (.invokestatic 116, 3) := by decide +kernel
theorem dL_acts_670 : decode cL_acts 670 = .ok (.bipush (-71), 2) := by decide +kernel
theorem dL_acts_672 : decode cL_acts 672 = .ok (.if_icmp .ne 38, 3) := by decide +kernel
theorem dL_acts_675 : decode cL_acts 675 = .ok (.aload_n 0, 1) := by decide +kernel
theorem dL_acts_676 : decode cL_acts 676 = .ok (.iload 13, 2) := by decide +kernel
theorem dL_acts_678 : decode cL_acts 678 = .ok (.iconst 0, 1) := by decide +kernel
theorem dL_acts_679 : decode cL_acts 679 = .ok (.bipush 9, 2) := by decide +kernel
theorem dL_acts_681 : decode cL_acts 681 = .ok (.bipush (-2), 2) := by decide +kernel
theorem dL_acts_683 : decode cL_acts 683 = .ok (.invokestatic 116, 3) := by decide +kernel
theorem dL_acts_686 : decode cL_acts 686 = .ok (.bipush (-71), 2) := by decide +kernel
theorem dL_acts_688 : decode cL_acts 688 = .ok (.if_icmp .ne 22, 3) := by decide +kernel
theorem dL_acts_691 : decode cL_acts 691 = .ok (.aload_n 0, 1) := by decide +kernel
theorem dL_acts_692 : decode cL_acts 692 = .ok (.iload 13, 2) := by decide +kernel
theorem dL_acts_694 : decode cL_acts 694 = .ok (.iload 14, 2) := by decide +kernel
theorem dL_acts_696 : decode cL_acts 696 = .ok (.iload 15, 2) := by decide +kernel
theorem dL_acts_698 : decode cL_acts 698 = .ok (.iload 16, 2) := by decide +kernel
theorem dL_acts_700 : decode cL_acts 700 = .ok (.invokestatic 116, 3) := by decide +kernel
theorem dL_acts_703 : decode cL_acts 703 = .ok (.ifCond .ne 7, 3) := by decide +kernel
theorem dL_acts_706 : decode cL_acts 706 = .ok (.iconst 1, 1) := by decide +kernel
theorem dL_acts_707 : decode cL_acts 707 = .ok (.goto 4, 3) := by decide +kernel
theorem dL_acts_710 : decode cL_acts 710 = .ok (.iconst 0, 1) := by decide +kernel
theorem dL_acts_711 : decode cL_acts 711 = .ok (.ireturn, 1) := by decide +kernel
theorem dL_acts_712 : decode cL_acts 712 = .ok (.iload_n 1, 1) := by decide +kernel
theorem dL_acts_713 : decode cL_acts 713 = .ok (.iconst 4, 1) := by decide +kernel
theorem dL_acts_714 : decode cL_acts 714 = .ok (.if_icmp .ne 108, 3) := by decide +kernel
theorem dL_acts_717 : decode cL_acts 717 = .ok (.iload_n 2, 1) := by decide +kernel
theorem dL_acts_718 : decode cL_acts 718 = .ok (.iconst 4, 1) := by decide +kernel
theorem dL_acts_719 : decode cL_acts 719 = .ok (.invokestatic 90, 3) := by decide +kernel
theorem dL_acts_722 : decode cL_acts 722 = .ok (.istore 13, 2) := by decide +kernel
theorem dL_acts_724 : decode cL_acts 724 = .ok (.aload 10, 2) := by decide +kernel
theorem dL_acts_726 : decode cL_acts 726 = .ok (.iload 13, 2) := by decide +kernel
theorem dL_acts_728 : decode cL_acts 728 = .ok (.iaload, 1) := by decide +kernel
theorem dL_acts_729 : decode cL_acts 729 = .ok (.istore 14, 2) := by decide +kernel
theorem dL_acts_731 : decode cL_acts 731 = .ok (.aload 10, 2) := by decide +kernel
theorem dL_acts_733 : decode cL_acts 733 = .ok (.iload 13, 2) := by decide +kernel
theorem dL_acts_735 : decode cL_acts 735 = .ok (.iload_n 3, 1) := by decide +kernel
theorem dL_acts_736 : decode cL_acts 736 = .ok (.bipush 6, 2) := by decide +kernel
theorem dL_acts_738 : decode cL_acts 738 = .ok (.iand, 1) := by decide +kernel
theorem dL_acts_739 : decode cL_acts 739 = .ok (.ifCond .ne 15, 3) := by decide +kernel
theorem dL_acts_742 : decode cL_acts 742 = .ok (.iload_n 3, 1) := by decide +kernel
theorem dL_acts_743 : decode cL_acts 743 = .ok (.iconst 3, 1) := by decide +kernel
theorem dL_acts_744 : decode cL_acts 744 = .ok (.ishr, 1) := by decide +kernel
theorem dL_acts_745 : decode cL_acts 745 = .ok (.sipush 10000, 3) := by decide +kernel
theorem dL_acts_748 : decode cL_acts 748 = .ok (.invokestatic 90, 3) := by decide +kernel
theorem dL_acts_751 : decode cL_acts 751 = .ok (.goto 11, 3) := by decide +kernel
theorem dL_acts_754 : decode cL_acts 754 = .ok (.iload_n 3, 1) := by decide +kernel
theorem dL_acts_755 : decode cL_acts 755 = .ok (.iconst 3, 1) := by decide +kernel
theorem dL_acts_756 : decode cL_acts 756 = .ok (.ishr, 1) := by decide +kernel
theorem dL_acts_757 : decode cL_acts 757 = .ok (.bipush 120, 2) := by decide +kernel
theorem dL_acts_759 : decode cL_acts 759 = .ok (.invokestatic 90, 3) := by decide +kernel
theorem dL_acts_762 : decode cL_acts 762 = .ok (.iastore, 1) := by decide +kernel
theorem dL_acts_763 : decode cL_acts 763 = .ok (.aload_n 0, 1) := by decide +kernel
theorem dL_acts_764 : decode cL_acts 764 = .ok (.iconst 4, 1) := by decide +kernel
theorem dL_acts_765 : decode cL_acts 765 = .ok (.iconst 0, 1) := by decide +kernel
theorem dL_acts_766 : decode cL_acts 766 = .ok (.invokestatic 119, 3) := by decide +kernel
theorem dL_acts_769 : decode cL_acts 769 = .ok (.bipush (-71), 2) := by decide +kernel
theorem dL_acts_771 : decode cL_acts 771 = .ok (.if_icmp .ne 49, 3) := by decide +kernel
theorem dL_acts_774 : decode cL_acts 774 = .ok (.aload_n 0, 1) := by decide +kernel
theorem dL_acts_775 : decode cL_acts 775 = .ok (.iload 13, 2) := by decide +kernel
theorem dL_acts_777 : decode cL_acts 777 = .ok (.sipush 10000, 3) := by decide +kernel
theorem dL_acts_780 : decode cL_acts 780 = .ok (.invokestatic 119, 3) := by decide +kernel
theorem dL_acts_783 : decode cL_acts 783 = .ok (.bipush (-71), 2) := by decide +kernel
theorem dL_acts_785 : decode cL_acts 785 = .ok (.if_icmp .ne 35, 3) := by decide +kernel
theorem dL_acts_788 : decode cL_acts 788 = .ok (.aload_n 0, 1) := by decide +kernel
theorem dL_acts_789 : decode cL_acts 789 = .ok (.iload 13, 2) := by decide +kernel
theorem dL_acts_791 : decode cL_acts 791 = .ok (.iconst (-1), 1) := by decide +kernel
theorem dL_acts_792 : decode cL_acts 792 = .ok (.invokestatic 119, 3) := by decide +kernel
theorem dL_acts_795 : decode cL_acts 795 = .ok (.bipush (-71), 2) := by decide +kernel
theorem dL_acts_797 : decode cL_acts 797 = .ok (.if_icmp .ne 23, 3) := by decide +kernel
theorem dL_acts_800 : decode cL_acts 800 = .ok (.aload_n 0, 1) := by decide +kernel
theorem dL_acts_801 : decode cL_acts 801 = .ok (.iload 13, 2) := by decide +kernel
theorem dL_acts_803 : decode cL_acts 803 = .ok (.aload 10, 2) := by decide +kernel
theorem dL_acts_805 : decode cL_acts 805 = .ok (.iload 13, 2) := by decide +kernel
theorem dL_acts_807 : decode cL_acts 807 = .ok (.iaload, 1) := by decide +kernel
theorem dL_acts_808 : decode cL_acts 808 = .ok (.invokestatic 119, 3) := by decide +kernel
theorem dL_acts_811 : decode cL_acts 811 = .ok (.iload 14, 2) := by decide +kernel
theorem dL_acts_813 : decode cL_acts 813 = .ok (.if_icmp .ne 7, 3) := by decide +kernel
theorem dL_acts_816 : decode cL_acts 816 = .ok (.iconst 1, 1) := by decide +kernel
theorem dL_acts_817 : decode cL_acts 817 = .ok (.goto 4, 3) := by decide +kernel
theorem dL_acts_820 : decode cL_acts 820 = .ok (.iconst 0, 1) := by decide +kernel
theorem dL_acts_821 : decode cL_acts 821 = .ok (.ireturn, 1) := by decide +kernel
theorem dL_acts_822 : decode cL_acts 822 = .ok (.iload_n 1, 1) := by decide +kernel
theorem dL_acts_823 : decode cL_acts 823 = .ok (.iconst 5, 1) := by decide +kernel
theorem dL_acts_824 : decode cL_acts 824 = .ok (.if_icmp .ne 91, 3) := by decide +kernel
theorem dL_acts_827 : decode cL_acts 827 = .ok (.iload_n 2, 1) := by decide +kernel
theorem dL_acts_828 : decode cL_acts 828 = .ok (.bipush 6, 2) := by decide +kernel
theorem dL_acts_830 : decode cL_acts 830 = .ok (.invokestatic 90, 3) := by decide +kernel
theorem dL_acts_833 : decode cL_acts 833 = .ok (.istore 13, 2) := by decide +kernel
theorem dL_acts_835 : decode cL_acts 835 = .ok (.iload_n 3, 1) := by decide +kernel
theorem dL_acts_836 : decode cL_acts 836 = .ok (.bipush 6, 2) := by decide +kernel
theorem dL_acts_838 : decode cL_acts 838 = .ok (.iand, 1) := by decide +kernel
theorem dL_acts_839 : decode cL_acts 839 = .ok (.ifCond .le 7, 3) := by decide +kernel
theorem dL_acts_842 : decode cL_acts 842 = .ok (.iconst 1, 1) := by decide +kernel
theorem dL_acts_843 : decode cL_acts 843 = .ok (.goto 4, 3) := by decide +kernel
theorem dL_acts_846 : decode cL_acts 846 = .ok (.iconst 0, 1) := by decide +kernel
theorem dL_acts_847 : decode cL_acts 847 = .ok (.istore 14, 2) := by decide +kernel
theorem dL_acts_849 : decode cL_acts 849 = .ok (.aload 11, 2) := by decide +kernel
theorem dL_acts_851 : decode cL_acts 851 = .ok (.iload 13, 2) := by decide +kernel
theorem dL_acts_853 : decode cL_acts 853 = .ok (.iaload, 1) := by decide +kernel
theorem dL_acts_854 : decode cL_acts 854 = .ok (.istore 15, 2) := by decide +kernel
theorem dL_acts_856 : decode cL_acts 856 = .ok (.aload 11, 2) := by decide +kernel
theorem dL_acts_858 : decode cL_acts 858 = .ok (.iload 13, 2) := by decide +kernel
theorem dL_acts_860 : decode cL_acts 860 = .ok (.iload 14, 2) := by decide +kernel
theorem dL_acts_862 : decode cL_acts 862 = .ok (.ifCond .eq 7, 3) := by decide +kernel
theorem dL_acts_865 : decode cL_acts 865 = .ok (.iconst 1, 1) := by decide +kernel
theorem dL_acts_866 : decode cL_acts 866 = .ok (.goto 4, 3) := by decide +kernel
theorem dL_acts_869 : decode cL_acts 869 = .ok (.iconst 0, 1) := by decide +kernel
theorem dL_acts_870 : decode cL_acts 870 = .ok (.iastore, 1) := by decide +kernel
theorem dL_acts_871 : decode cL_acts 871 = .ok (.aload_n 0, 1) := by decide +kernel
theorem dL_acts_872 : decode cL_acts 872 = .ok (.bipush 100, 2) := by decide +kernel
theorem dL_acts_874 : decode cL_acts 874 = .ok (.iload 14, 2) := by decide +kernel
theorem dL_acts_876 : decode cL_acts 876 = .ok (.invokestatic 122, 3) := by decide +kernel
theorem dL_acts_879 : decode cL_acts 879 = .ok (.bipush (-71), 2) := by decide +kernel
theorem dL_acts_881 : decode cL_acts 881 = .ok (.if_icmp .ne 32, 3) := by decide +kernel
theorem dL_acts_884 : decode cL_acts 884 = .ok (.aload_n 0, 1) := by decide +kernel
theorem dL_acts_885 : decode cL_acts 885 = .ok (.iconst (-1), 1) := by decide +kernel
theorem dL_acts_886 : decode cL_acts 886 = .ok (.iload 14, 2) := by decide +kernel
theorem dL_acts_888 : decode cL_acts 888 = .ok (.invokestatic 122, 3) := by decide +kernel
theorem dL_acts_891 : decode cL_acts 891 = .ok (.bipush (-71), 2) := by decide +kernel
theorem dL_acts_893 : decode cL_acts 893 = .ok (.if_icmp .ne 20, 3) := by decide +kernel
theorem dL_acts_896 : decode cL_acts 896 = .ok (.aload_n 0, 1) := by decide +kernel
theorem dL_acts_897 : decode cL_acts 897 = .ok (.iload 13, 2) := by decide +kernel
theorem dL_acts_899 : decode cL_acts 899 = .ok (.iload 14, 2) := by decide +kernel
theorem dL_acts_901 : decode cL_acts 901 = .ok (.invokestatic 122, 3) := by decide +kernel
theorem dL_acts_904 : decode cL_acts 904 = .ok (.iload 15, 2) := by decide +kernel
theorem dL_acts_906 : decode cL_acts 906 = .ok (.if_icmp .ne 7, 3) := by decide +kernel
theorem dL_acts_909 : decode cL_acts 909 = .ok (.iconst 1, 1) := by decide +kernel
theorem dL_acts_910 : decode cL_acts 910 = .ok (.goto 4, 3) := by decide +kernel
theorem dL_acts_913 : decode cL_acts 913 = .ok (.iconst 0, 1) := by decide +kernel
theorem dL_acts_914 : decode cL_acts 914 = .ok (.ireturn, 1) := by decide +kernel
theorem dL_acts_915 : decode cL_acts 915 = .ok (.iconst 0, 1) := by decide +kernel
theorem dL_acts_916 : decode cL_acts 916 = .ok (.istore 13, 2) := by decide +kernel
theorem dL_acts_918 : decode cL_acts 918 = .ok (.iconst 0, 1) := by decide +kernel
theorem dL_acts_919 : decode cL_acts 919 = .ok (.istore 14, 2) := by decide +kernel
theorem dL_acts_921 : decode cL_acts 921 = .ok (.iload 14, 2) := by decide +kernel
theorem dL_acts_923 : decode cL_acts 923 = .ok (.aload 12, 2) := by decide +kernel
theorem dL_acts_925 : decode cL_acts 925 = .ok (.iconst 5, 1) := by decide +kernel
theorem dL_acts_926 : decode cL_acts 926 = .ok (.iaload, 1) := by decide +kernel
theorem dL_acts_927 : decode cL_acts 927 = .ok (.if_icmp .ge 104, 3) := by decide +kernel
theorem dL_acts_930 : decode cL_acts 930 = .ok (.aload 7, 2) := by decide +kernel
theorem dL_acts_932 : decode cL_acts 932 = .ok (.iload 14, 2) := by decide +kernel
theorem dL_acts_934 : decode cL_acts 934 = .ok (.iaload, 1) := by decide +kernel
theorem dL_acts_935 : decode cL_acts 935 = .ok (.bipush 127, 2) := by decide +kernel
theorem dL_acts_937 : decode cL_acts 937 = .ok (.iand, 1) := by decide +kernel
theorem dL_acts_938 : decode cL_acts 938 = .ok (.iconst 1, 1) := by decide +kernel
theorem dL_acts_939 : decode cL_acts 939 = .ok (.isub, 1) := by decide +kernel
theorem dL_acts_940 : decode cL_acts 940 = .ok (.istore 15, 2) := by decide +kernel
theorem dL_acts_942 : decode cL_acts 942 = .ok (.aload 8, 2) := by decide +kernel
theorem dL_acts_944 : decode cL_acts 944 = .ok (.iload 14, 2) := by decide +kernel
theorem dL_acts_946 : decode cL_acts 946 = .ok (.invokestatic 81, 3) := by decide +kernel
theorem dL_acts_949 : decode cL_acts 949 = .ok (.ifCond .eq 76, 3) := by decide +kernel
theorem dL_acts_952 : decode cL_acts 952 = .ok (.iload 15, 2) := by decide +kernel
theorem dL_acts_954 : decode cL_acts 954 = .ok (.ifCond .lt 19, 3) := by decide +kernel
theorem dL_acts_957 : decode cL_acts 957 = .ok (.iload 15, 2) := by decide +kernel
theorem dL_acts_959 : decode cL_acts 959 = .ok (.bipush 6, 2) := by decide +kernel
theorem dL_acts_961 : decode cL_acts 961 = .ok (.if_icmp .ge 12, 3) := by decide +kernel
theorem dL_acts_964 : decode cL_acts 964 = .ok (.aload 11, 2) := by decide +kernel
theorem dL_acts_966 : decode cL_acts 966 = .ok (.iload 15, 2) := by decide +kernel
theorem dL_acts_968 : decode cL_acts 968 = .ok (.iaload, 1) := by decide +kernel
theorem dL_acts_969 : decode cL_acts 969 = .ok (.iconst 1, 1) := by decide +kernel
theorem dL_acts_970 : decode cL_acts 970 = .ok (.if_icmp .eq 55, 3) := by decide +kernel
theorem dL_acts_973 : decode cL_acts 973 = .ok (.aload 12, 2) := by decide +kernel
theorem dL_acts_975 : decode cL_acts 975 = .ok (.iconst 0, 1) := by decide +kernel
theorem dL_acts_976 : decode cL_acts 976 = .ok (.iaload, 1) := by decide +kernel
theorem dL_acts_977 : decode cL_acts 977 = .ok (.aload 5, 2) := by decide +kernel
theorem dL_acts_979 : decode cL_acts 979 = .ok (.aload 7, 2) := by decide +kernel
theorem dL_acts_981 : decode cL_acts 981 = .ok (.iload 14, 2) := by decide +kernel
theorem dL_acts_983 : decode cL_acts 983 = .ok (.iaload, 1) := by decide +kernel
theorem dL_acts_984 : decode cL_acts 984 = .ok (.bipush 15, 2) := by decide +kernel
theorem dL_acts_986 : decode cL_acts 986 = .ok (.ishr, 1) := by decide +kernel
theorem dL_acts_987 : decode cL_acts 987 = .ok (.iaload, 1) := by decide +kernel
theorem dL_acts_988 : decode cL_acts 988 = .ok (.bipush 12, 2) := by decide +kernel
theorem dL_acts_990 : decode cL_acts 990 = .ok (.ishr, 1) := by decide +kernel
theorem dL_acts_991 : decode cL_acts 991 = .ok (.aload 10, 2) := by decide +kernel
theorem dL_acts_993 : decode cL_acts 993 = .ok (.aload 7, 2) := by decide +kernel
theorem dL_acts_995 : decode cL_acts 995 = .ok (.iload 14, 2) := by decide +kernel
theorem dL_acts_997 : decode cL_acts 997 = .ok (.iaload, 1) := by decide +kernel
theorem dL_acts_998 : decode cL_acts 998 = .ok (.bipush 7, 2) := by decide +kernel
theorem dL_acts_1000 : decode cL_acts 1000 = .ok (.ishr, 1) := by decide +kernel
theorem dL_acts_1001 : decode cL_acts 1001 = .ok (.iconst 3, 1) := by decide +kernel
theorem dL_acts_1002 : decode cL_acts 1002 = .ok (.iand, 1) := by decide +kernel
theorem dL_acts_1003 : decode cL_acts 1003 = .ok (.iaload, 1) := by decide +kernel
theorem dL_acts_1004 : decode cL_acts 1004 = .ok (.iadd, 1) := by decide +kernel
theorem dL_acts_1005 : decode cL_acts 1005 = .ok (.if_icmp .gt 6, 3) := by decide +kernel
theorem dL_acts_1008 : decode cL_acts 1008 = .ok (.goto 17, 3) := by decide +kernel
theorem dL_acts_1011 : decode cL_acts 1011 = .ok (.aload 8, 2) := by decide +kernel
theorem dL_acts_1013 : decode cL_acts 1013 = .ok (.iload 14, 2) := by decide +kernel
theorem dL_acts_1015 : decode cL_acts 1015 = .ok (.aload 8, 2) := by decide +kernel
theorem dL_acts_1017 : decode cL_acts 1017 = .ok (.iload 14, 2) := by decide +kernel
theorem dL_acts_1019 : decode cL_acts 1019 = .ok (.iaload, 1) := by decide +kernel
theorem dL_acts_1020 : decode cL_acts 1020 = .ok (.ineg, 1) := by decide +kernel
theorem dL_acts_1021 : decode cL_acts 1021 = .ok (.iastore, 1) := by decide +kernel
theorem dL_acts_1022 : decode cL_acts 1022 = .ok (.iinc 13 1, 3) := by decide +kernel
theorem dL_acts_1025 : decode cL_acts 1025 = .ok (.iinc 14 1, 3) := by decide +kernel
theorem dL_acts_1028 : decode cL_acts 1028 = .ok (.goto (-107), 3) := by decide +kernel
theorem dL_acts_1031 : decode cL_acts 1031 = .ok (.aload_n 0, 1) := by decide +kernel
theorem dL_acts_1032 : decode cL_acts 1032 = .ok (.invokevirtual 125, 3) := by decide +kernel
theorem dL_acts_1035 : decode cL_acts 1035 = .ok (.iload 13, 2) := by decide +kernel
theorem dL_acts_1037 : decode cL_acts 1037 = .ok (.if_icmp .ne 7, 3) := by decide +kernel
theorem dL_acts_1040 : decode cL_acts 1040 = .ok (.iconst 1, 1) := by decide +kernel
theorem dL_acts_1041 : decode cL_acts 1041 = .ok (.goto 4, 3) := by decide +kernel
theorem dL_acts_1044 : decode cL_acts 1044 = .ok (.iconst 0, 1) := by decide +kernel
theorem dL_acts_1045 : decode cL_acts 1045 = .ok (.ireturn, 1) := by decide +kernel
theorem dL_isTold_0 : decode cL_isTold 0 = .ok (.iconst 0, 1) := by decide +kernel
theorem dL_isTold_1 : decode cL_isTold 1 = .ok (.istore 10, 2) := by decide +kernel
theorem dL_isTold_3 : decode cL_isTold 3 = .ok (.iload 10, 2) := by decide +kernel
theorem dL_isTold_5 : decode cL_isTold 5 = .ok (.aload 9, 2) := by decide +kernel
theorem dL_isTold_7 : decode cL_isTold 7 = .ok (.iconst 5, 1) := by decide +kernel
theorem dL_isTold_8 : decode cL_isTold 8 = .ok (.iaload, 1) := by decide +kernel
theorem dL_isTold_9 : decode cL_isTold 9 = .ok (.if_icmp .ge 81, 3) := by decide +kernel
theorem dL_isTold_12 : decode cL_isTold 12 = .ok (.aload_n 0, 1) := by decide +kernel
theorem dL_isTold_13 : decode cL_isTold 13 = .ok (.iload 10, 2) := by decide +kernel
theorem dL_isTold_15 : decode cL_isTold 15 = .ok (.invokevirtual 128, 3) := by decide +kernel
theorem dL_isTold_18 : decode cL_isTold 18 = .ok (.aload 7, 2) := by decide +kernel
theorem dL_isTold_20 : decode cL_isTold 20 = .ok (.iload 10, 2) := by decide +kernel
theorem dL_isTold_22 : decode cL_isTold 22 = .ok (.invokestatic 81, 3) := by decide +kernel
theorem dL_isTold_25 : decode cL_isTold 25 = .ok (.if_icmp .ne 57, 3) := by decide +kernel
theorem dL_isTold_28 : decode cL_isTold 28 = .ok (.aload_n 0, 1) := by decide +kernel
theorem dL_isTold_29 : decode cL_isTold 29 = .ok (.iload 10, 2) := by decide +kernel
theorem dL_isTold_31 : decode cL_isTold 31 = .ok (.invokestatic 131, 3) := by decide +kernel
theorem dL_isTold_34 : decode cL_isTold 34 = .ok (.aload 6, 2) := by decide +kernel
theorem dL_isTold_36 : decode cL_isTold 36 = .ok (.iload 10, 2) := by decide +kernel
theorem dL_isTold_38 : decode cL_isTold 38 = .ok (.iaload, 1) := by decide +kernel
theorem dL_isTold_39 : decode cL_isTold 39 = .ok (.bipush 127, 2) := by decide +kernel
theorem dL_isTold_41 : decode cL_isTold 41 = .ok (.iand, 1) := by decide +kernel
theorem dL_isTold_42 : decode cL_isTold 42 = .ok (.iconst 1, 1) := by decide +kernel
theorem dL_isTold_43 : decode cL_isTold 43 = .ok (.isub, 1) := by decide +kernel
theorem dL_isTold_44 : decode cL_isTold 44 = .ok (.if_icmp .ne 38, 3) := by decide +kernel
theorem dL_isTold_47 : decode cL_isTold 47 = .ok (.aload_n 0, 1) := by decide +kernel
theorem dL_isTold_48 : decode cL_isTold 48 = .ok (.iload 10, 2) := by decide +kernel
theorem dL_isTold_50 : decode cL_isTold 50 = .ok (.invokevirtual 133, 3) := by decide +kernel
theorem dL_isTold_53 : decode cL_isTold 53 = .ok (.aload 6, 2) := by decide +kernel
theorem dL_isTold_55 : decode cL_isTold 55 = .ok (.iload 10, 2) := by decide +kernel
theorem dL_isTold_57 : decode cL_isTold 57 = .ok (.iaload, 1) := by decide +kernel
theorem dL_isTold_58 : decode cL_isTold 58 = .ok (.bipush 7, 2) := by decide +kernel
theorem dL_isTold_60 : decode cL_isTold 60 = .ok (.ishr, 1) := by decide +kernel
theorem dL_isTold_61 : decode cL_isTold 61 = .ok (.iconst 3, 1) := by decide +kernel
theorem dL_isTold_62 : decode cL_isTold 62 = .ok (.iand, 1) := by decide +kernel
theorem dL_isTold_63 : decode cL_isTold 63 = .ok (.if_icmp .ne 19, 3) := by decide +kernel
theorem dL_isTold_66 : decode cL_isTold 66 = .ok (.aload_n 0, 1) := by decide +kernel
theorem dL_isTold_67 : decode cL_isTold 67 = .ok (.iload 10, 2) := by decide +kernel
theorem dL_isTold_69 : decode cL_isTold 69 = .ok (.invokevirtual 136, 3) := by decide +kernel
theorem dL_isTold_72 : decode cL_isTold 72 = .ok (.aload 7, 2) := by decide +kernel
theorem dL_isTold_74 : decode cL_isTold 74 = .ok (.iload 10, 2) := by decide +kernel
theorem dL_isTold_76 : decode cL_isTold 76 = .ok (.invokestatic 139, 3) := by decide +kernel
theorem dL_isTold_79 : decode cL_isTold 79 = .ok (.if_icmp .eq 5, 3) := by decide +kernel
theorem dL_isTold_82 : decode cL_isTold 82 = .ok (.iconst 0, 1) := by decide +kernel
theorem dL_isTold_83 : decode cL_isTold 83 = .ok (.ireturn, 1) := by decide +kernel
theorem dL_isTold_84 : decode cL_isTold 84 = .ok (.iinc 10 1, 3) := by decide +kernel
theorem dL_isTold_87 : decode cL_isTold 87 = .ok (.goto (-84), 3) := by decide +kernel
theorem dL_isTold_90 : decode cL_isTold 90 = .ok (.iconst 0, 1) := by decide +kernel
theorem dL_isTold_91 : decode cL_isTold 91 = .ok (.istore 10, 2) := by decide +kernel
theorem dL_isTold_93 : decode cL_isTold 93 = .ok (.iload 10, 2) := by decide +kernel
theorem dL_isTold_95 : decode cL_isTold 95 = .ok (.aload 9, 2) := by decide +kernel
theorem dL_isTold_97 : decode cL_isTold 97 = .ok (.iconst 4, 1) := by decide +kernel
theorem dL_isTold_98 : decode cL_isTold 98 = .ok (.iaload, 1) := by decide +kernel
theorem dL_isTold_99 : decode cL_isTold 99 = .ok (.if_icmp .ge 218, 3) := by decide +kernel
theorem dL_isTold_102 : decode cL_isTold 102 = .ok (.aload 5, 2) := by decide +kernel
theorem dL_isTold_104 : decode cL_isTold 104 = .ok (.iload 10, 2) := by decide +kernel
theorem dL_isTold_106 : decode cL_isTold 106 = .ok (.iaload, 1) := by decide +kernel
theorem dL_isTold_107 : decode cL_isTold 107 = .ok (.bipush 63, 2) := by decide +kernel
theorem dL_isTold_109 : decode cL_isTold 109 = .ok (.iand, 1) := by decide +kernel
theorem dL_isTold_110 : decode cL_isTold 110 = .ok (.istore 11, 2) := by decide +kernel
theorem dL_isTold_112 : decode cL_isTold 112 = .ok (.aload 5, 2) := by decide +kernel
theorem dL_isTold_114 : decode cL_isTold 114 = .ok (.iload 10, 2) := by decide +kernel
theorem dL_isTold_116 : decode cL_isTold 116 = .ok (.iaload, 1) := by decide +kernel
theorem dL_isTold_117 : decode cL_isTold 117 = .ok (.bipush 6, 2) := by decide +kernel
theorem dL_isTold_119 : decode cL_isTold 119 = .ok (.ishr, 1) := by decide +kernel
theorem dL_isTold_120 : decode cL_isTold 120 = .ok (.bipush 63, 2) := by decide +kernel
theorem dL_isTold_122 : decode cL_isTold 122 = .ok (.iand, 1) := by decide +kernel
theorem dL_isTold_123 : decode cL_isTold 123 = .ok (.istore 12, 2) := by decide +kernel
theorem dL_isTold_125 : decode cL_isTold 125 = .ok (.iconst (-1), 1) := by decide +kernel
theorem dL_isTold_126 : decode cL_isTold 126 = .ok (.istore 13, 2) := by decide +kernel
theorem dL_isTold_128 : decode cL_isTold 128 = .ok (.iload 10, 2) := by decide +kernel
theorem dL_isTold_130 : decode cL_isTold 130 = .ok (.iconst 1, 1) := by decide +kernel
theorem dL_isTold_131 : decode cL_isTold 131 = .ok (.isub, 1) := by decide +kernel
theorem dL_isTold_132 : decode cL_isTold 132 = .ok (.istore 14, 2) := by decide +kernel
theorem dL_isTold_134 : decode cL_isTold 134 = .ok (.iload 14, 2) := by decide +kernel
theorem dL_isTold_136 : decode cL_isTold 136 = .ok (.ifCond .lt 101, 3) := by decide +kernel
theorem dL_isTold_139 : decode cL_isTold 139 = .ok (.aload 5, 2) := by decide +kernel
theorem dL_isTold_141 : decode cL_isTold 141 = .ok (.iload 14, 2) := by decide +kernel
theorem dL_isTold_143 : decode cL_isTold 143 = .ok (.iaload, 1) := by decide +kernel
theorem dL_isTold_144 : decode cL_isTold 144 = .ok (.bipush 6, 2) := by decide +kernel
theorem dL_isTold_146 : decode cL_isTold 146 = .ok (.ishr, 1) := by decide +kernel
theorem dL_isTold_147 : decode cL_isTold 147 = .ok (.aload 5, 2) := by decide +kernel
theorem dL_isTold_149 : decode cL_isTold 149 = .ok (.iload 10, 2) := by decide +kernel
theorem dL_isTold_151 : decode cL_isTold 151 = .ok (.iaload, 1) := by decide +kernel
theorem dL_isTold_152 : decode cL_isTold 152 = .ok (.bipush 6, 2) := by decide +kernel
theorem dL_isTold_154 : decode cL_isTold 154 = .ok (.ishr, 1) := by decide +kernel
theorem dL_isTold_155 : decode cL_isTold 155 = .ok (.if_icmp .ne 7, 3) := by decide +kernel
theorem dL_isTold_158 : decode cL_isTold 158 = .ok (.iconst 1, 1) := by decide +kernel
theorem dL_isTold_159 : decode cL_isTold 159 = .ok (.goto 4, 3) := by decide +kernel
theorem dL_isTold_162 : decode cL_isTold 162 = .ok (.iconst 0, 1) := by decide +kernel
theorem dL_isTold_163 : decode cL_isTold 163 = .ok (.istore 15, 2) := by decide +kernel
theorem dL_isTold_165 : decode cL_isTold 165 = .ok (.iconst 0, 1) := by decide +kernel
theorem dL_isTold_166 : decode cL_isTold 166 = .ok (.istore 16, 2) := by decide +kernel
theorem dL_isTold_168 : decode cL_isTold 168 = .ok (.iload 16, 2) := by decide +kernel
theorem dL_isTold_170 : decode cL_isTold 170 = .ok (.iload 12, 2) := by decide +kernel
theorem dL_isTold_172 : decode cL_isTold 172 = .ok (.if_icmp .ge 45, 3) := by decide +kernel
theorem dL_isTold_175 : decode cL_isTold 175 = .ok (.iload 15, 2) := by decide +kernel
theorem dL_isTold_177 : decode cL_isTold 177 = .ok (.ifCond .eq 40, 3) := by decide +kernel
theorem dL_isTold_180 : decode cL_isTold 180 = .ok (.aload_n 3, 1) := by decide +kernel
theorem dL_isTold_181 : decode cL_isTold 181 = .ok (.aload 5, 2) := by decide +kernel
theorem dL_isTold_183 : decode cL_isTold 183 = .ok (.iload 14, 2) := by decide +kernel
theorem dL_isTold_185 : decode cL_isTold 185 = .ok (.iaload, 1) := by decide +kernel
theorem dL_isTold_186 : decode cL_isTold 186 = .ok (.bipush 63, 2) := by decide +kernel
theorem dL_isTold_188 : decode cL_isTold 188 = .ok (.iand, 1) := by decide +kernel
theorem dL_isTold_189 : decode cL_isTold 189 = .ok (.iload 16, 2) := by decide +kernel
theorem dL_isTold_191 : decode cL_isTold 191 = .ok (.iadd, 1) := by decide +kernel
theorem dL_isTold_192 : decode cL_isTold 192 = .ok (.laload, 1) := by decide +kernel
theorem dL_isTold_193 : decode cL_isTold 193 = .ok (.aload_n 3, 1) := by decide +kernel
theorem dL_isTold_194 : decode cL_isTold 194 = .ok (.iload 11, 2) := by decide +kernel
theorem dL_isTold_196 : decode cL_isTold 196 = .ok (.iload 16, 2) := by decide +kernel
theorem dL_isTold_198 : decode cL_isTold 198 = .ok (.iadd, 1) := by decide +kernel
theorem dL_isTold_199 : decode cL_isTold 199 = .ok (.laload, 1) := by decide +kernel
theorem dL_isTold_200 : decode cL_isTold 200 = .ok (.lcmp, 1) := by decide +kernel
theorem dL_isTold_201 : decode cL_isTold 201 = .ok (.ifCond .ne 7, 3) := by decide +kernel
theorem dL_isTold_204 : decode cL_isTold 204 = .ok (.iconst 1, 1) := by decide +kernel
theorem dL_isTold_205 : decode cL_isTold 205 = .ok (.goto 4, 3) := by decide +kernel
theorem dL_isTold_208 : decode cL_isTold 208 = .ok (.iconst 0, 1) := by decide +kernel
theorem dL_isTold_209 : decode cL_isTold 209 = .ok (.istore 15, 2) := by decide +kernel
theorem dL_isTold_211 : decode cL_isTold 211 = .ok (.iinc 16 1, 3) := by decide +kernel
theorem dL_isTold_214 : decode cL_isTold 214 = .ok (.goto (-46), 3) := by decide +kernel
theorem dL_isTold_217 : decode cL_isTold 217 = .ok (.iload 15, 2) := by decide +kernel
theorem dL_isTold_219 : decode cL_isTold 219 = .ok (.ifCond .eq 8, 3) := by decide +kernel
theorem dL_isTold_222 : decode cL_isTold 222 = .ok (.iload 14, 2) := by decide +kernel
theorem dL_isTold_224 : decode cL_isTold 224 = .ok (.goto 5, 3) := by decide +kernel
theorem dL_isTold_227 : decode cL_isTold 227 = .ok (.iload 13, 2) := by decide +kernel
theorem dL_isTold_229 : decode cL_isTold 229 = .ok (.istore 13, 2) := by decide +kernel
theorem dL_isTold_231 : decode cL_isTold 231 = .ok (.iinc 14 (-1), 3) := by decide +kernel
theorem dL_isTold_234 : decode cL_isTold 234 = .ok (.goto (-100), 3) := by decide +kernel
theorem dL_isTold_237 : decode cL_isTold 237 = .ok (.aload_n 0, 1) := by decide +kernel
theorem dL_isTold_238 : decode cL_isTold 238 = .ok (.iload 10, 2) := by decide +kernel
theorem dL_isTold_240 : decode cL_isTold 240 = .ok (.invokestatic 142, 3) := by decide +kernel
theorem dL_isTold_243 : decode cL_isTold 243 = .ok (.iload 12, 2) := by decide +kernel
theorem dL_isTold_245 : decode cL_isTold 245 = .ok (.if_icmp .ne 27, 3) := by decide +kernel
theorem dL_isTold_248 : decode cL_isTold 248 = .ok (.aload_n 0, 1) := by decide +kernel
theorem dL_isTold_249 : decode cL_isTold 249 = .ok (.iload 10, 2) := by decide +kernel
theorem dL_isTold_251 : decode cL_isTold 251 = .ok (.invokestatic 144, 3) := by decide +kernel
theorem dL_isTold_254 : decode cL_isTold 254 = .ok (.iload 13, 2) := by decide +kernel
theorem dL_isTold_256 : decode cL_isTold 256 = .ok (.if_icmp .ne 16, 3) := by decide +kernel
theorem dL_isTold_259 : decode cL_isTold 259 = .ok (.aload_n 0, 1) := by decide +kernel
theorem dL_isTold_260 : decode cL_isTold 260 = .ok (.iload 10, 2) := by decide +kernel
theorem dL_isTold_262 : decode cL_isTold 262 = .ok (.iload 12, 2) := by decide +kernel
theorem dL_isTold_264 : decode cL_isTold 264 = .ok (.invokestatic 146, 3) := by decide +kernel
theorem dL_isTold_267 : decode cL_isTold 267 = .ok (.bipush (-73), 2) := by decide +kernel
theorem dL_isTold_269 : decode cL_isTold 269 = .ok (.if_icmp .eq 5, 3) := by decide +kernel
theorem dL_isTold_272 : decode cL_isTold 272 = .ok (.iconst 0, 1) := by decide +kernel
theorem dL_isTold_273 : decode cL_isTold 273 = .ok (.ireturn, 1) := by decide +kernel
theorem dL_isTold_274 : decode cL_isTold 274 = .ok (.iconst 0, 1) := by decide +kernel
theorem dL_isTold_275 : decode cL_isTold 275 = .ok (.istore 14, 2) := by decide +kernel
theorem dL_isTold_277 : decode cL_isTold 277 = .ok (.iload 14, 2) := by decide +kernel
theorem dL_isTold_279 : decode cL_isTold 279 = .ok (.iload 12, 2) := by decide +kernel
theorem dL_isTold_281 : decode cL_isTold 281 = .ok (.if_icmp .ge 30, 3) := by decide +kernel
theorem dL_isTold_284 : decode cL_isTold 284 = .ok (.aload_n 0, 1) := by decide +kernel
theorem dL_isTold_285 : decode cL_isTold 285 = .ok (.iload 10, 2) := by decide +kernel
theorem dL_isTold_287 : decode cL_isTold 287 = .ok (.iload 14, 2) := by decide +kernel
theorem dL_isTold_289 : decode cL_isTold 289 = .ok (.invokestatic 146, 3) := by decide +kernel
theorem dL_isTold_292 : decode cL_isTold 292 = .ok (.aload 4, 2) := by decide +kernel
theorem dL_isTold_294 : decode cL_isTold 294 = .ok (.iload 11, 2) := by decide +kernel
theorem dL_isTold_296 : decode cL_isTold 296 = .ok (.iload 14, 2) := by decide +kernel
theorem dL_isTold_298 : decode cL_isTold 298 = .ok (.iadd, 1) := by decide +kernel
theorem dL_isTold_299 : decode cL_isTold 299 = .ok (.iaload, 1) := by decide +kernel
theorem dL_isTold_300 : decode cL_isTold 300 = .ok (.if_icmp .eq 5, 3) := by decide +kernel
theorem dL_isTold_303 : decode cL_isTold 303 = .ok (.iconst 0, 1) := by decide +kernel
theorem dL_isTold_304 : decode cL_isTold 304 = .ok (.ireturn, 1) := by decide +kernel
theorem dL_isTold_305 : decode cL_isTold 305 = .ok (.iinc 14 1, 3) := by decide +kernel
theorem dL_isTold_308 : decode cL_isTold 308 = .ok (.goto (-31), 3) := by decide +kernel
theorem dL_isTold_311 : decode cL_isTold 311 = .ok (.iinc 10 1, 3) := by decide +kernel
theorem dL_isTold_314 : decode cL_isTold 314 = .ok (.goto (-221), 3) := by decide +kernel
theorem dL_isTold_317 : decode cL_isTold 317 = .ok (.iload_n 1, 1) := by decide +kernel
theorem dL_isTold_318 : decode cL_isTold 318 = .ok (.iconst 4, 1) := by decide +kernel
theorem dL_isTold_319 : decode cL_isTold 319 = .ok (.invokestatic 90, 3) := by decide +kernel
theorem dL_isTold_322 : decode cL_isTold 322 = .ok (.istore 10, 2) := by decide +kernel
theorem dL_isTold_324 : decode cL_isTold 324 = .ok (.iload_n 1, 1) := by decide +kernel
theorem dL_isTold_325 : decode cL_isTold 325 = .ok (.iconst 3, 1) := by decide +kernel
theorem dL_isTold_326 : decode cL_isTold 326 = .ok (.ishr, 1) := by decide +kernel
theorem dL_isTold_327 : decode cL_isTold 327 = .ok (.bipush 7, 2) := by decide +kernel
theorem dL_isTold_329 : decode cL_isTold 329 = .ok (.invokestatic 90, 3) := by decide +kernel
theorem dL_isTold_332 : decode cL_isTold 332 = .ok (.iconst 1, 1) := by decide +kernel
theorem dL_isTold_333 : decode cL_isTold 333 = .ok (.isub, 1) := by decide +kernel
theorem dL_isTold_334 : decode cL_isTold 334 = .ok (.istore 11, 2) := by decide +kernel
theorem dL_isTold_336 : decode cL_isTold 336 = .ok (.iload_n 1, 1) := by decide +kernel
theorem dL_isTold_337 : decode cL_isTold 337 = .ok (.bipush 6, 2) := by decide +kernel
theorem dL_isTold_339 : decode cL_isTold 339 = .ok (.ishr, 1) := by decide +kernel
theorem dL_isTold_340 : decode cL_isTold 340 = .ok (.iconst 5, 1) := by decide +kernel
theorem dL_isTold_341 : decode cL_isTold 341 = .ok (.invokestatic 90, 3) := by decide +kernel
theorem dL_isTold_344 : decode cL_isTold 344 = .ok (.iconst 1, 1) := by decide +kernel
theorem dL_isTold_345 : decode cL_isTold 345 = .ok (.isub, 1) := by decide +kernel
theorem dL_isTold_346 : decode cL_isTold 346 = .ok (.istore 12, 2) := by decide +kernel
theorem dL_isTold_348 : decode cL_isTold 348 = .ok (.iload_n 1, 1) := by decide +kernel
theorem dL_isTold_349 : decode cL_isTold 349 = .ok (.sipush 512, 3) := by decide +kernel
theorem dL_isTold_352 : decode cL_isTold 352 = .ok (.iand, 1) := by decide +kernel
theorem dL_isTold_353 : decode cL_isTold 353 = .ok (.ifCond .ne 7, 3) := by decide +kernel
theorem dL_isTold_356 : decode cL_isTold 356 = .ok (.iconst 0, 1) := by decide +kernel
theorem dL_isTold_357 : decode cL_isTold 357 = .ok (.goto 13, 3) := by decide +kernel
theorem dL_isTold_360 : decode cL_isTold 360 = .ok (.iload_n 2, 1) := by decide +kernel
theorem dL_isTold_361 : decode cL_isTold 361 = .ok (.aload 9, 2) := by decide +kernel
theorem dL_isTold_363 : decode cL_isTold 363 = .ok (.iconst 0, 1) := by decide +kernel
theorem dL_isTold_364 : decode cL_isTold 364 = .ok (.iaload, 1) := by decide +kernel
theorem dL_isTold_365 : decode cL_isTold 365 = .ok (.iconst 2, 1) := by decide +kernel
theorem dL_isTold_366 : decode cL_isTold 366 = .ok (.iadd, 1) := by decide +kernel
theorem dL_isTold_367 : decode cL_isTold 367 = .ok (.invokestatic 90, 3) := by decide +kernel
theorem dL_isTold_370 : decode cL_isTold 370 = .ok (.istore 13, 2) := by decide +kernel
theorem dL_isTold_372 : decode cL_isTold 372 = .ok (.iload 13, 2) := by decide +kernel
theorem dL_isTold_374 : decode cL_isTold 374 = .ok (.sipush 9999, 3) := by decide +kernel
theorem dL_isTold_377 : decode cL_isTold 377 = .ok (.if_icmp .le 9, 3) := by decide +kernel
theorem dL_isTold_380 : decode cL_isTold 380 = .ok (.sipush 9999, 3) := by decide +kernel
theorem dL_isTold_383 : decode cL_isTold 383 = .ok (.goto 5, 3) := by decide +kernel
theorem dL_isTold_386 : decode cL_isTold 386 = .ok (.iload 13, 2) := by decide +kernel
theorem dL_isTold_388 : decode cL_isTold 388 = .ok (.istore 13, 2) := by decide +kernel
theorem dL_isTold_390 : decode cL_isTold 390 = .ok (.iconst 0, 1) := by decide +kernel
theorem dL_isTold_391 : decode cL_isTold 391 = .ok (.istore 14, 2) := by decide +kernel
theorem dL_isTold_393 : decode cL_isTold 393 = .ok (.iconst 0, 1) := by decide +kernel
theorem dL_isTold_394 : decode cL_isTold 394 = .ok (.istore 15, 2) := by decide +kernel
theorem dL_isTold_396 : decode cL_isTold 396 = .ok (.iconst 0, 1) := by decide +kernel
theorem dL_isTold_397 : decode cL_isTold 397 = .ok (.istore 16, 2) := by decide +kernel
theorem dL_isTold_399 : decode cL_isTold 399 = .ok (.iload 16, 2) := by decide +kernel
theorem dL_isTold_401 : decode cL_isTold 401 = .ok (.aload 9, 2) := by decide +kernel
theorem dL_isTold_403 : decode cL_isTold 403 = .ok (.iconst 5, 1) := by decide +kernel
theorem dL_isTold_404 : decode cL_isTold 404 = .ok (.iaload, 1) := by decide +kernel
theorem dL_isTold_405 : decode cL_isTold 405 = .ok (.if_icmp .ge 144, 3) := by decide +kernel
theorem dL_isTold_408 : decode cL_isTold 408 = .ok (.aload 6, 2) := by decide +kernel
theorem dL_isTold_410 : decode cL_isTold 410 = .ok (.aload 7, 2) := by decide +kernel
theorem dL_isTold_412 : decode cL_isTold 412 = .ok (.aload 8, 2) := by decide +kernel
theorem dL_isTold_414 : decode cL_isTold 414 = .ok (.iload 10, 2) := by decide +kernel
theorem dL_isTold_416 : decode cL_isTold 416 = .ok (.iload 16, 2) := by decide +kernel
theorem dL_isTold_418 : decode cL_isTold 418 = .ok (.invokestatic 148, 3) := by decide +kernel
theorem dL_isTold_421 : decode cL_isTold 421 = .ok (.ifCond .ne 6, 3) := by decide +kernel
theorem dL_isTold_424 : decode cL_isTold 424 = .ok (.goto 119, 3) := by decide +kernel
theorem dL_isTold_427 : decode cL_isTold 427 = .ok (.aload 6, 2) := by decide +kernel
theorem dL_isTold_429 : decode cL_isTold 429 = .ok (.iload 16, 2) := by decide +kernel
theorem dL_isTold_431 : decode cL_isTold 431 = .ok (.iaload, 1) := by decide +kernel
theorem dL_isTold_432 : decode cL_isTold 432 = .ok (.bipush 127, 2) := by decide +kernel
theorem dL_isTold_434 : decode cL_isTold 434 = .ok (.iand, 1) := by decide +kernel
theorem dL_isTold_435 : decode cL_isTold 435 = .ok (.iconst 1, 1) := by decide +kernel
theorem dL_isTold_436 : decode cL_isTold 436 = .ok (.isub, 1) := by decide +kernel
theorem dL_isTold_437 : decode cL_isTold 437 = .ok (.istore 17, 2) := by decide +kernel
theorem dL_isTold_439 : decode cL_isTold 439 = .ok (.iload 15, 2) := by decide +kernel
theorem dL_isTold_441 : decode cL_isTold 441 = .ok (.iload 17, 2) := by decide +kernel
theorem dL_isTold_443 : decode cL_isTold 443 = .ok (.iload 11, 2) := by decide +kernel
theorem dL_isTold_445 : decode cL_isTold 445 = .ok (.if_icmp .ne 16, 3) := by decide +kernel
theorem dL_isTold_448 : decode cL_isTold 448 = .ok (.iload 11, 2) := by decide +kernel
theorem dL_isTold_450 : decode cL_isTold 450 = .ok (.ifCond .lt 11, 3) := by decide +kernel
theorem dL_isTold_453 : decode cL_isTold 453 = .ok (.aload 7, 2) := by decide +kernel
theorem dL_isTold_455 : decode cL_isTold 455 = .ok (.iload 16, 2) := by decide +kernel
theorem dL_isTold_457 : decode cL_isTold 457 = .ok (.iaload, 1) := by decide +kernel
theorem dL_isTold_458 : decode cL_isTold 458 = .ok (.goto 4, 3) := by decide +kernel
theorem dL_isTold_461 : decode cL_isTold 461 = .ok (.iconst 0, 1) := by decide +kernel
theorem dL_isTold_462 : decode cL_isTold 462 = .ok (.iadd, 1) := by decide +kernel
theorem dL_isTold_463 : decode cL_isTold 463 = .ok (.istore 15, 2) := by decide +kernel
theorem dL_isTold_465 : decode cL_isTold 465 = .ok (.iload 11, 2) := by decide +kernel
theorem dL_isTold_467 : decode cL_isTold 467 = .ok (.ifCond .lt 10, 3) := by decide +kernel
theorem dL_isTold_470 : decode cL_isTold 470 = .ok (.iload 17, 2) := by decide +kernel
theorem dL_isTold_472 : decode cL_isTold 472 = .ok (.iload 11, 2) := by decide +kernel
theorem dL_isTold_474 : decode cL_isTold 474 = .ok (.if_icmp .ne 69, 3) := by decide +kernel
theorem dL_isTold_477 : decode cL_isTold 477 = .ok (.iload 12, 2) := by decide +kernel
theorem dL_isTold_479 : decode cL_isTold 479 = .ok (.ifCond .lt 18, 3) := by decide +kernel
theorem dL_isTold_482 : decode cL_isTold 482 = .ok (.aload 6, 2) := by decide +kernel
theorem dL_isTold_484 : decode cL_isTold 484 = .ok (.iload 16, 2) := by decide +kernel
theorem dL_isTold_486 : decode cL_isTold 486 = .ok (.iaload, 1) := by decide +kernel
theorem dL_isTold_487 : decode cL_isTold 487 = .ok (.bipush 7, 2) := by decide +kernel
theorem dL_isTold_489 : decode cL_isTold 489 = .ok (.ishr, 1) := by decide +kernel
theorem dL_isTold_490 : decode cL_isTold 490 = .ok (.iconst 3, 1) := by decide +kernel
theorem dL_isTold_491 : decode cL_isTold 491 = .ok (.iand, 1) := by decide +kernel
theorem dL_isTold_492 : decode cL_isTold 492 = .ok (.iload 12, 2) := by decide +kernel
theorem dL_isTold_494 : decode cL_isTold 494 = .ok (.if_icmp .ne 49, 3) := by decide +kernel
theorem dL_isTold_497 : decode cL_isTold 497 = .ok (.aload 5, 2) := by decide +kernel
theorem dL_isTold_499 : decode cL_isTold 499 = .ok (.aload 6, 2) := by decide +kernel
theorem dL_isTold_501 : decode cL_isTold 501 = .ok (.iload 16, 2) := by decide +kernel
theorem dL_isTold_503 : decode cL_isTold 503 = .ok (.iaload, 1) := by decide +kernel
theorem dL_isTold_504 : decode cL_isTold 504 = .ok (.bipush 15, 2) := by decide +kernel
theorem dL_isTold_506 : decode cL_isTold 506 = .ok (.ishr, 1) := by decide +kernel
theorem dL_isTold_507 : decode cL_isTold 507 = .ok (.iaload, 1) := by decide +kernel
theorem dL_isTold_508 : decode cL_isTold 508 = .ok (.bipush 12, 2) := by decide +kernel
theorem dL_isTold_510 : decode cL_isTold 510 = .ok (.ishr, 1) := by decide +kernel
theorem dL_isTold_511 : decode cL_isTold 511 = .ok (.iload 13, 2) := by decide +kernel
theorem dL_isTold_513 : decode cL_isTold 513 = .ok (.if_icmp .ge 6, 3) := by decide +kernel
theorem dL_isTold_516 : decode cL_isTold 516 = .ok (.goto 27, 3) := by decide +kernel
theorem dL_isTold_519 : decode cL_isTold 519 = .ok (.aload_n 0, 1) := by decide +kernel
theorem dL_isTold_520 : decode cL_isTold 520 = .ok (.iload 10, 2) := by decide +kernel
theorem dL_isTold_522 : decode cL_isTold 522 = .ok (.iload 11, 2) := by decide +kernel
theorem dL_isTold_524 : decode cL_isTold 524 = .ok (.iload 12, 2) := by decide +kernel
theorem dL_isTold_526 : decode cL_isTold 526 = .ok (.iload 13, 2) := by decide +kernel
theorem dL_isTold_528 : decode cL_isTold 528 = .ok (.iload 14, 2) := by decide +kernel
theorem dL_isTold_530 : decode cL_isTold 530 = .ok (.invokestatic 152, 3) := by decide +kernel
theorem dL_isTold_533 : decode cL_isTold 533 = .ok (.iload 16, 2) := by decide +kernel
theorem dL_isTold_535 : decode cL_isTold 535 = .ok (.if_icmp .eq 5, 3) := by decide +kernel
theorem dL_isTold_538 : decode cL_isTold 538 = .ok (.iconst 0, 1) := by decide +kernel
theorem dL_isTold_539 : decode cL_isTold 539 = .ok (.ireturn, 1) := by decide +kernel
theorem dL_isTold_540 : decode cL_isTold 540 = .ok (.iinc 14 1, 3) := by decide +kernel
theorem dL_isTold_543 : decode cL_isTold 543 = .ok (.iinc 16 1, 3) := by decide +kernel
theorem dL_isTold_546 : decode cL_isTold 546 = .ok (.goto (-147), 3) := by decide +kernel
theorem dL_isTold_549 : decode cL_isTold 549 = .ok (.aload_n 0, 1) := by decide +kernel
theorem dL_isTold_550 : decode cL_isTold 550 = .ok (.iload 10, 2) := by decide +kernel
theorem dL_isTold_552 : decode cL_isTold 552 = .ok (.iload 11, 2) := by decide +kernel
theorem dL_isTold_554 : decode cL_isTold 554 = .ok (.iload 12, 2) := by decide +kernel
theorem dL_isTold_556 : decode cL_isTold 556 = .ok (.iload 13, 2) := by decide +kernel
theorem dL_isTold_558 : decode cL_isTold 558 = .ok (.iload 14, 2) := by decide +kernel
theorem dL_isTold_560 : decode cL_isTold 560 = .ok (.invokestatic 152, 3) := by decide +kernel
theorem dL_isTold_563 : decode cL_isTold 563 = .ok (.bipush (-73), 2) := by decide +kernel
theorem dL_isTold_565 : decode cL_isTold 565 = .ok (.if_icmp .ne 128, 3) := by decide +kernel
theorem dL_isTold_568 : decode cL_isTold 568 = .ok (.aload_n 0, 1) := by decide +kernel
theorem dL_isTold_569 : decode cL_isTold 569 = .ok (.iload 10, 2) := by decide +kernel
theorem dL_isTold_571 : decode cL_isTold 571 = .ok (.iload 11, 2) := by decide +kernel
theorem dL_isTold_573 : decode cL_isTold 573 = .ok (.iload 12, 2) := by decide +kernel
theorem dL_isTold_575 : decode cL_isTold 575 = .ok (.iload 13, 2) := by decide +kernel
theorem dL_isTold_577 : decode cL_isTold 577 = .ok (.iconst (-1), 1) := by decide +kernel
theorem dL_isTold_578 : decode cL_isTold 578 = .ok (.invokestatic 152, 3) := by decide +kernel
theorem dL_isTold_581 : decode cL_isTold 581 = .ok (.bipush (-73), 2) := by decide +kernel
theorem dL_isTold_583 : decode cL_isTold 583 = .ok (.if_icmp .ne 110, 3) := by decide +kernel
theorem dL_isTold_586 : decode cL_isTold 586 = .ok (.aload_n 0, 1) := by decide +kernel
theorem dL_isTold_587 : decode cL_isTold 587 = .ok (.iconst 4, 1) := by decide +kernel
theorem dL_isTold_588 : decode cL_isTold 588 = .ok (.iload 11, 2) := by decide +kernel
theorem dL_isTold_590 : decode cL_isTold 590 = .ok (.iload 12, 2) := by decide +kernel
theorem dL_isTold_592 : decode cL_isTold 592 = .ok (.iload 13, 2) := by decide +kernel
theorem dL_isTold_594 : decode cL_isTold 594 = .ok (.iconst (-1), 1) := by decide +kernel
theorem dL_isTold_595 : decode cL_isTold 595 = .ok (.invokestatic 152, 3) := by decide +kernel
theorem dL_isTold_598 : decode cL_isTold 598 = .ok (.bipush (-71), 2) := by decide +kernel
theorem dL_isTold_600 : decode cL_isTold 600 = .ok (.if_icmp .ne 93, 3) := by decide +kernel
theorem dL_isTold_603 : decode cL_isTold 603 = .ok (.aload_n 0, 1) := by decide +kernel
theorem dL_isTold_604 : decode cL_isTold 604 = .ok (.iload 10, 2) := by decide +kernel
theorem dL_isTold_606 : decode cL_isTold 606 = .ok (.bipush (-2), 2) := by decide +kernel
theorem dL_isTold_608 : decode cL_isTold 608 = .ok (.iload 12, 2) := by decide +kernel
theorem dL_isTold_610 : decode cL_isTold 610 = .ok (.iload 13, 2) := by decide +kernel
theorem dL_isTold_612 : decode cL_isTold 612 = .ok (.iconst 0, 1) := by decide +kernel
theorem dL_isTold_613 : decode cL_isTold 613 = .ok (.invokestatic 152, 3) := by decide +kernel
theorem dL_isTold_616 : decode cL_isTold 616 = .ok (.bipush (-71), 2) := by decide +kernel
theorem dL_isTold_618 : decode cL_isTold 618 = .ok (.if_icmp .ne 75, 3) := by decide +kernel
theorem dL_isTold_621 : decode cL_isTold 621 = .ok (.aload_n 0, 1) := by decide +kernel
theorem dL_isTold_622 : decode cL_isTold 622 = .ok (.iload 10, 2) := by decide +kernel
theorem dL_isTold_624 : decode cL_isTold 624 = .ok (.bipush 100, 2) := by decide +kernel
theorem dL_isTold_626 : decode cL_isTold 626 = .ok (.iload 12, 2) := by decide +kernel
theorem dL_isTold_628 : decode cL_isTold 628 = .ok (.iload 13, 2) := by decide +kernel
theorem dL_isTold_630 : decode cL_isTold 630 = .ok (.iconst 0, 1) := by decide +kernel
theorem dL_isTold_631 : decode cL_isTold 631 = .ok (.invokestatic 152, 3) := by decide +kernel
theorem dL_isTold_634 : decode cL_isTold 634 = .ok (.bipush (-71), 2) := by decide +kernel
theorem dL_isTold_636 : decode cL_isTold 636 = .ok (.if_icmp .ne 57, 3) := by decide +kernel
theorem dL_isTold_639 : decode cL_isTold 639 = .ok (.aload_n 0, 1) := by decide +kernel
theorem dL_isTold_640 : decode cL_isTold 640 = .ok (.iload 10, 2) := by decide +kernel
theorem dL_isTold_642 : decode cL_isTold 642 = .ok (.iload 11, 2) := by decide +kernel
theorem dL_isTold_644 : decode cL_isTold 644 = .ok (.iconst 4, 1) := by decide +kernel
theorem dL_isTold_645 : decode cL_isTold 645 = .ok (.iload 13, 2) := by decide +kernel
theorem dL_isTold_647 : decode cL_isTold 647 = .ok (.iconst 0, 1) := by decide +kernel
theorem dL_isTold_648 : decode cL_isTold 648 = .ok (.invokestatic 152, 3) := by decide +kernel
theorem dL_isTold_651 : decode cL_isTold 651 = .ok (.bipush (-71), 2) := by decide +kernel
theorem dL_isTold_653 : decode cL_isTold 653 = .ok (.if_icmp .ne 40, 3) := by decide +kernel
theorem dL_isTold_656 : decode cL_isTold 656 = .ok (.aload_n 0, 1) := by decide +kernel
theorem dL_isTold_657 : decode cL_isTold 657 = .ok (.iload 10, 2) := by decide +kernel
theorem dL_isTold_659 : decode cL_isTold 659 = .ok (.iload 11, 2) := by decide +kernel
theorem dL_isTold_661 : decode cL_isTold 661 = .ok (.iload 12, 2) := by decide +kernel
theorem dL_isTold_663 : decode cL_isTold 663 = .ok (.sipush 10000, 3) := by decide +kernel
theorem dL_isTold_666 : decode cL_isTold 666 = .ok (.iconst 0, 1) := by decide +kernel
theorem dL_isTold_667 : decode cL_isTold 667 = .ok (.invokestatic 152, 3) := by decide +kernel
theorem dL_isTold_670 : decode cL_isTold 670 = .ok (.bipush (-71), 2) := by decide +kernel
theorem dL_isTold_672 : decode cL_isTold 672 = .ok (.if_icmp .ne 21, 3) := by decide +kernel
theorem dL_isTold_675 : decode cL_isTold 675 = .ok (.iload 11, 2) := by decide +kernel
theorem dL_isTold_677 : decode cL_isTold 677 = .ok (.ifCond .lt 18, 3) := by decide +kernel
theorem dL_isTold_680 : decode cL_isTold 680 = .ok (.aload_n 0, 1) := by decide +kernel
theorem dL_isTold_681 : decode cL_isTold 681 = .ok (.iload 10, 2) := by decide +kernel
theorem dL_isTold_683 : decode cL_isTold 683 = .ok (.iload 11, 2) := by decide +kernel
theorem dL_isTold_685 : decode cL_isTold 685 = .ok (.invokestatic 155, 3) := by decide +kernel
theorem dL_isTold_688 : decode cL_isTold 688 = .ok (.iload 15, 2) := by decide +kernel
theorem dL_isTold_690 : decode cL_isTold 690 = .ok (.if_icmp .eq 5, 3) := by decide +kernel
theorem dL_isTold_693 : decode cL_isTold 693 = .ok (.iconst 0, 1) := by decide +kernel
theorem dL_isTold_694 : decode cL_isTold 694 = .ok (.ireturn, 1) := by decide +kernel
theorem dL_isTold_695 : decode cL_isTold 695 = .ok (.aload 9, 2) := by decide +kernel
theorem dL_isTold_697 : decode cL_isTold 697 = .ok (.iconst 5, 1) := by decide +kernel
theorem dL_isTold_698 : decode cL_isTold 698 = .ok (.iaload, 1) := by decide +kernel
theorem dL_isTold_699 : decode cL_isTold 699 = .ok (.ifCond .le 223, 3) := by decide +kernel
theorem dL_isTold_702 : decode cL_isTold 702 = .ok (.iload_n 2, 1) := by decide +kernel
theorem dL_isTold_703 : decode cL_isTold 703 = .ok (.iconst 4, 1) := by decide +kernel
theorem dL_isTold_704 : decode cL_isTold 704 = .ok (.ishr, 1) := by decide +kernel
theorem dL_isTold_705 : decode cL_isTold 705 = .ok (.aload 9, 2) := by decide +kernel
theorem dL_isTold_707 : decode cL_isTold 707 = .ok (.iconst 5, 1) := by decide +kernel
theorem dL_isTold_708 : decode cL_isTold 708 = .ok (.iaload, 1) := by decide +kernel
theorem dL_isTold_709 : decode cL_isTold 709 = .ok (.invokestatic 90, 3) := by decide +kernel
theorem dL_isTold_712 : decode cL_isTold 712 = .ok (.istore 16, 2) := by decide +kernel
theorem dL_isTold_714 : decode cL_isTold 714 = .ok (.iload_n 2, 1) := by decide +kernel
theorem dL_isTold_715 : decode cL_isTold 715 = .ok (.bipush 9, 2) := by decide +kernel
theorem dL_isTold_717 : decode cL_isTold 717 = .ok (.ishr, 1) := by decide +kernel
theorem dL_isTold_718 : decode cL_isTold 718 = .ok (.aload 7, 2) := by decide +kernel
theorem dL_isTold_720 : decode cL_isTold 720 = .ok (.iload 16, 2) := by decide +kernel
theorem dL_isTold_722 : decode cL_isTold 722 = .ok (.invokestatic 139, 3) := by decide +kernel
theorem dL_isTold_725 : decode cL_isTold 725 = .ok (.invokestatic 90, 3) := by decide +kernel
theorem dL_isTold_728 : decode cL_isTold 728 = .ok (.istore 17, 2) := by decide +kernel
theorem dL_isTold_730 : decode cL_isTold 730 = .ok (.aload_n 3, 1) := by decide +kernel
theorem dL_isTold_731 : decode cL_isTold 731 = .ok (.aload 6, 2) := by decide +kernel
theorem dL_isTold_733 : decode cL_isTold 733 = .ok (.iload 16, 2) := by decide +kernel
theorem dL_isTold_735 : decode cL_isTold 735 = .ok (.iaload, 1) := by decide +kernel
theorem dL_isTold_736 : decode cL_isTold 736 = .ok (.bipush 9, 2) := by decide +kernel
theorem dL_isTold_738 : decode cL_isTold 738 = .ok (.ishr, 1) := by decide +kernel
theorem dL_isTold_739 : decode cL_isTold 739 = .ok (.bipush 63, 2) := by decide +kernel
theorem dL_isTold_741 : decode cL_isTold 741 = .ok (.iand, 1) := by decide +kernel
theorem dL_isTold_742 : decode cL_isTold 742 = .ok (.iload 17, 2) := by decide +kernel
theorem dL_isTold_744 : decode cL_isTold 744 = .ok (.iadd, 1) := by decide +kernel
theorem dL_isTold_745 : decode cL_isTold 745 = .ok (.laload, 1) := by decide +kernel
theorem dL_isTold_746 : decode cL_isTold 746 = .ok (.lstore 18, 2) := by decide +kernel
theorem dL_isTold_748 : decode cL_isTold 748 = .ok (.aload 6, 2) := by decide +kernel
theorem dL_isTold_750 : decode cL_isTold 750 = .ok (.aload 7, 2) := by decide +kernel
theorem dL_isTold_752 : decode cL_isTold 752 = .ok (.aload 8, 2) := by decide +kernel
theorem dL_isTold_754 : decode cL_isTold 754 = .ok (.iload 10, 2) := by decide +kernel
theorem dL_isTold_756 : decode cL_isTold 756 = .ok (.iload 16, 2) := by decide +kernel
theorem dL_isTold_758 : decode cL_isTold 758 = .ok (.invokestatic 148, 3) := by decide +kernel
theorem dL_isTold_761 : decode cL_isTold 761 = .ok (.istore 20, 2) := by decide +kernel
theorem dL_isTold_763 : decode cL_isTold 763 = .ok (.iconst 0, 1) := by decide +kernel
theorem dL_isTold_764 : decode cL_isTold 764 = .ok (.istore 21, 2) := by decide +kernel
theorem dL_isTold_766 : decode cL_isTold 766 = .ok (.iload 21, 2) := by decide +kernel
theorem dL_isTold_768 : decode cL_isTold 768 = .ok (.lload 18, 2) := by decide +kernel
theorem dL_isTold_770 : decode cL_isTold 770 = .ok (.invokestatic 73, 3) := by decide +kernel
theorem dL_isTold_773 : decode cL_isTold 773 = .ok (.if_icmp .ge 62, 3) := by decide +kernel
theorem dL_isTold_776 : decode cL_isTold 776 = .ok (.aload_n 0, 1) := by decide +kernel
theorem dL_isTold_777 : decode cL_isTold 777 = .ok (.iload 10, 2) := by decide +kernel
theorem dL_isTold_779 : decode cL_isTold 779 = .ok (.iload 16, 2) := by decide +kernel
theorem dL_isTold_781 : decode cL_isTold 781 = .ok (.iload 17, 2) := by decide +kernel
theorem dL_isTold_783 : decode cL_isTold 783 = .ok (.iload 21, 2) := by decide +kernel
theorem dL_isTold_785 : decode cL_isTold 785 = .ok (.invokestatic 157, 3) := by decide +kernel
theorem dL_isTold_788 : decode cL_isTold 788 = .ok (.iload 20, 2) := by decide +kernel
theorem dL_isTold_790 : decode cL_isTold 790 = .ok (.ifCond .ne 8, 3) := by decide +kernel
theorem dL_isTold_793 : decode cL_isTold 793 = .ok (.bipush (-74), 2) := by decide +kernel
theorem dL_isTold_795 : decode cL_isTold 795 = .ok (.goto 29, 3) := by decide +kernel
theorem dL_isTold_798 : decode cL_isTold 798 = .ok (.aload 8, 2) := by decide +kernel
theorem dL_isTold_800 : decode cL_isTold 800 = .ok (.iload 10, 2) := by decide +kernel
theorem dL_isTold_802 : decode cL_isTold 802 = .ok (.iaload, 1) := by decide +kernel
theorem dL_isTold_803 : decode cL_isTold 803 = .ok (.bipush 14, 2) := by decide +kernel
theorem dL_isTold_805 : decode cL_isTold 805 = .ok (.ishr, 1) := by decide +kernel
theorem dL_isTold_806 : decode cL_isTold 806 = .ok (.iconst 1, 1) := by decide +kernel
theorem dL_isTold_807 : decode cL_isTold 807 = .ok (.isub, 1) := by decide +kernel
theorem dL_isTold_808 : decode cL_isTold 808 = .ok (.iload 21, 2) := by decide +kernel
theorem dL_isTold_810 : decode cL_isTold 810 = .ok (.if_icmp .ne 7, 3) := by decide +kernel
theorem dL_isTold_813 : decode cL_isTold 813 = .ok (.iconst (-1), 1) := by decide +kernel
theorem dL_isTold_814 : decode cL_isTold 814 = .ok (.goto 10, 3) := by decide +kernel
theorem dL_isTold_817 : decode cL_isTold 817 = .ok (.lload 18, 2) := by decide +kernel
theorem dL_isTold_819 : decode cL_isTold 819 = .ok (.iload 21, 2) := by decide +kernel
theorem dL_isTold_821 : decode cL_isTold 821 = .ok (.invokestatic 85, 3) := by decide +kernel
theorem dL_isTold_824 : decode cL_isTold 824 = .ok (.if_icmp .eq 5, 3) := by decide +kernel
theorem dL_isTold_827 : decode cL_isTold 827 = .ok (.iconst 0, 1) := by decide +kernel
theorem dL_isTold_828 : decode cL_isTold 828 = .ok (.ireturn, 1) := by decide +kernel
theorem dL_isTold_829 : decode cL_isTold 829 = .ok (.iinc 21 1, 3) := by decide +kernel
theorem dL_isTold_832 : decode cL_isTold 832 = .ok (.goto (-66), 3) := by decide +kernel
theorem dL_isTold_835 : decode cL_isTold 835 = .ok (.aload_n 0, 1) := by decide +kernel
theorem dL_isTold_836 : decode cL_isTold 836 = .ok (.iload 10, 2) := by decide +kernel
theorem dL_isTold_838 : decode cL_isTold 838 = .ok (.iload 16, 2) := by decide +kernel
theorem dL_isTold_840 : decode cL_isTold 840 = .ok (.iload 17, 2) := by decide +kernel
theorem dL_isTold_842 : decode cL_isTold 842 = .ok (.lload 18, 2) := by decide +kernel
theorem dL_isTold_844 : decode cL_isTold 844 = .ok (.invokestatic 73, 3) := by decide +kernel
theorem dL_isTold_847 : decode cL_isTold 847 = .ok (.invokestatic 157, 3) := by decide +kernel
theorem dL_isTold_850 : decode cL_isTold 850 = .ok (.bipush (-73), 2) := by decide +kernel
theorem dL_isTold_852 : decode cL_isTold 852 = .ok (.if_icmp .ne 68, 3) := by decide +kernel
theorem dL_isTold_855 : decode cL_isTold 855 = .ok (.aload_n 0, 1) := by decide +kernel
theorem dL_isTold_856 : decode cL_isTold 856 = .ok (.iload 10, 2) := by decide +kernel
theorem dL_isTold_858 : decode cL_isTold 858 = .ok (.iload 16, 2) := by decide +kernel
theorem dL_isTold_860 : decode cL_isTold 860 = .ok (.aload 7, 2) := by decide +kernel
theorem dL_isTold_862 : decode cL_isTold 862 = .ok (.iload 16, 2) := by decide +kernel
theorem dL_isTold_864 : decode cL_isTold 864 = .ok (.invokestatic 139, 3) := by decide +kernel
theorem dL_isTold_867 : decode cL_isTold 867 = .ok (.iconst 0, 1) := by decide +kernel
theorem dL_isTold_868 : decode cL_isTold 868 = .ok (.invokestatic 157, 3) := by decide +kernel
theorem dL_isTold_871 : decode cL_isTold 871 = .ok (.bipush (-73), 2) := by decide +kernel
theorem dL_isTold_873 : decode cL_isTold 873 = .ok (.if_icmp .ne 47, 3) := by decide +kernel
theorem dL_isTold_876 : decode cL_isTold 876 = .ok (.aload_n 0, 1) := by decide +kernel
theorem dL_isTold_877 : decode cL_isTold 877 = .ok (.iload 10, 2) := by decide +kernel
theorem dL_isTold_879 : decode cL_isTold 879 = .ok (.iload 16, 2) := by decide +kernel
theorem dL_isTold_881 : decode cL_isTold 881 = .ok (.iconst (-1), 1) := by decide +kernel
theorem dL_isTold_882 : decode cL_isTold 882 = .ok (.iconst 0, 1) := by decide +kernel
theorem dL_isTold_883 : decode cL_isTold 883 = .ok (.invokestatic 157, 3) := by decide +kernel
theorem dL_isTold_886 : decode cL_isTold 886 = .ok (.bipush (-73), 2) := by decide +kernel
theorem dL_isTold_888 : decode cL_isTold 888 = .ok (.if_icmp .ne 32, 3) := by decide +kernel
theorem dL_isTold_891 : decode cL_isTold 891 = .ok (.aload_n 0, 1) := by decide +kernel
theorem dL_isTold_892 : decode cL_isTold 892 = .ok (.iconst 4, 1) := by decide +kernel
theorem dL_isTold_893 : decode cL_isTold 893 = .ok (.iconst (-1), 1) := by decide +kernel
theorem dL_isTold_894 : decode cL_isTold 894 = .ok (.iconst 0, 1) := by decide +kernel
theorem dL_isTold_895 : decode cL_isTold 895 = .ok (.iconst 0, 1) := by decide +kernel
theorem dL_isTold_896 : decode cL_isTold 896 = .ok (.invokestatic 157, 3) := by decide +kernel
theorem dL_isTold_899 : decode cL_isTold 899 = .ok (.bipush (-71), 2) := by decide +kernel
theorem dL_isTold_901 : decode cL_isTold 901 = .ok (.if_icmp .ne 19, 3) := by decide +kernel
theorem dL_isTold_904 : decode cL_isTold 904 = .ok (.aload_n 0, 1) := by decide +kernel
theorem dL_isTold_905 : decode cL_isTold 905 = .ok (.iload 10, 2) := by decide +kernel
theorem dL_isTold_907 : decode cL_isTold 907 = .ok (.iload 16, 2) := by decide +kernel
theorem dL_isTold_909 : decode cL_isTold 909 = .ok (.iload 17, 2) := by decide +kernel
theorem dL_isTold_911 : decode cL_isTold 911 = .ok (.iconst (-1), 1) := by decide +kernel
theorem dL_isTold_912 : decode cL_isTold 912 = .ok (.invokestatic 157, 3) := by decide +kernel
theorem dL_isTold_915 : decode cL_isTold 915 = .ok (.bipush (-73), 2) := by decide +kernel
theorem dL_isTold_917 : decode cL_isTold 917 = .ok (.if_icmp .eq 5, 3) := by decide +kernel
theorem dL_isTold_920 : decode cL_isTold 920 = .ok (.iconst 0, 1) := by decide +kernel
theorem dL_isTold_921 : decode cL_isTold 921 = .ok (.ireturn, 1) := by decide +kernel
theorem dL_isTold_922 : decode cL_isTold 922 = .ok (.aload_n 0, 1) := by decide +kernel
theorem dL_isTold_923 : decode cL_isTold 923 = .ok (.invokevirtual 96, 3) := by decide +kernel
theorem dL_isTold_926 : decode cL_isTold 926 = .ok (.aload 9, 2) := by decide +kernel
theorem dL_isTold_928 : decode cL_isTold 928 = .ok (.iconst 5, 1) := by decide +kernel
theorem dL_isTold_929 : decode cL_isTold 929 = .ok (.iaload, 1) := by decide +kernel
theorem dL_isTold_930 : decode cL_isTold 930 = .ok (.if_icmp .ne 117, 3) := by decide +kernel
theorem dL_isTold_933 : decode cL_isTold 933 = .ok (.aload_n 0, 1) := by decide +kernel
theorem dL_isTold_934 : decode cL_isTold 934 = .ok (.aload 9, 2) := by decide +kernel
theorem dL_isTold_936 : decode cL_isTold 936 = .ok (.iconst 5, 1) := by decide +kernel
theorem dL_isTold_937 : decode cL_isTold 937 = .ok (.iaload, 1) := by decide +kernel
theorem dL_isTold_938 : decode cL_isTold 938 = .ok (.invokestatic 131, 3) := by decide +kernel
theorem dL_isTold_941 : decode cL_isTold 941 = .ok (.bipush (-73), 2) := by decide +kernel
theorem dL_isTold_943 : decode cL_isTold 943 = .ok (.if_icmp .ne 104, 3) := by decide +kernel
theorem dL_isTold_946 : decode cL_isTold 946 = .ok (.aload_n 0, 1) := by decide +kernel
theorem dL_isTold_947 : decode cL_isTold 947 = .ok (.iconst (-1), 1) := by decide +kernel
theorem dL_isTold_948 : decode cL_isTold 948 = .ok (.invokestatic 131, 3) := by decide +kernel
theorem dL_isTold_951 : decode cL_isTold 951 = .ok (.bipush (-73), 2) := by decide +kernel
theorem dL_isTold_953 : decode cL_isTold 953 = .ok (.if_icmp .ne 94, 3) := by decide +kernel
theorem dL_isTold_956 : decode cL_isTold 956 = .ok (.aload_n 0, 1) := by decide +kernel
theorem dL_isTold_957 : decode cL_isTold 957 = .ok (.aload 9, 2) := by decide +kernel
theorem dL_isTold_959 : decode cL_isTold 959 = .ok (.iconst 4, 1) := by decide +kernel
theorem dL_isTold_960 : decode cL_isTold 960 = .ok (.iaload, 1) := by decide +kernel
theorem dL_isTold_961 : decode cL_isTold 961 = .ok (.invokestatic 142, 3) := by decide +kernel
theorem dL_isTold_964 : decode cL_isTold 964 = .ok (.bipush (-73), 2) := by decide +kernel
theorem dL_isTold_966 : decode cL_isTold 966 = .ok (.if_icmp .ne 81, 3) := by decide +kernel
theorem dL_isTold_969 : decode cL_isTold 969 = .ok (.aload_n 0, 1) := by decide +kernel
theorem dL_isTold_970 : decode cL_isTold 970 = .ok (.iconst (-1), 1) := by decide +kernel
theorem dL_isTold_971 : decode cL_isTold 971 = .ok (.invokestatic 144, 3) := by decide +kernel
theorem dL_isTold_974 : decode cL_isTold 974 = .ok (.bipush (-73), 2) := by decide +kernel
theorem dL_isTold_976 : decode cL_isTold 976 = .ok (.if_icmp .ne 71, 3) := by decide +kernel
theorem dL_isTold_979 : decode cL_isTold 979 = .ok (.aload_n 0, 1) := by decide +kernel
theorem dL_isTold_980 : decode cL_isTold 980 = .ok (.aload 9, 2) := by decide +kernel
theorem dL_isTold_982 : decode cL_isTold 982 = .ok (.iconst 4, 1) := by decide +kernel
theorem dL_isTold_983 : decode cL_isTold 983 = .ok (.iaload, 1) := by decide +kernel
theorem dL_isTold_984 : decode cL_isTold 984 = .ok (.iconst 0, 1) := by decide +kernel
theorem dL_isTold_985 : decode cL_isTold 985 = .ok (.invokestatic 146, 3) := by decide +kernel
theorem dL_isTold_988 : decode cL_isTold 988 = .ok (.bipush (-73), 2) := by decide +kernel
theorem dL_isTold_990 : decode cL_isTold 990 = .ok (.if_icmp .ne 57, 3) := by decide +kernel
theorem dL_isTold_993 : decode cL_isTold 993 = .ok (.aload_n 0, 1) := by decide +kernel
theorem dL_isTold_994 : decode cL_isTold 994 = .ok (.iconst 0, 1) := by decide +kernel
theorem dL_isTold_995 : decode cL_isTold 995 = .ok (.aload 9, 2) := by decide +kernel
theorem dL_isTold_997 : decode cL_isTold 997 = .ok (.iconst 5, 1) := by decide +kernel
theorem dL_isTold_998 : decode cL_isTold 998 = .ok (.iaload, 1) := by decide +kernel
theorem dL_isTold_999 : decode cL_isTold 999 = .ok (.iconst 0, 1) := by decide +kernel
theorem dL_isTold_1000 : decode cL_isTold 1000 = .ok (.iconst 0, 1) := by decide +kernel
theorem dL_isTold_1001 : decode cL_isTold 1001 = .ok (.invokestatic 157, 3) := by decide +kernel
theorem dL_isTold_1004 : decode cL_isTold 1004 = .ok (.bipush (-73), 2) := by decide +kernel
theorem dL_isTold_1006 : decode cL_isTold 1006 = .ok (.if_icmp .ne 41, 3) := by decide +kernel
theorem dL_isTold_1009 : decode cL_isTold 1009 = .ok (.aload_n 0, 1) := by decide +kernel
theorem dL_isTold_1010 : decode cL_isTold 1010 = .ok (.iconst 0, 1) := by decide +kernel
theorem dL_isTold_1011 : decode cL_isTold 1011 = .ok (.bipush 100, 2) := by decide +kernel
theorem dL_isTold_1013 : decode cL_isTold 1013 = .ok (.invokestatic 155, 3) := by decide +kernel
theorem dL_isTold_1016 : decode cL_isTold 1016 = .ok (.bipush (-71), 2) := by decide +kernel
theorem dL_isTold_1018 : decode cL_isTold 1018 = .ok (.if_icmp .ne 29, 3) := by decide +kernel
theorem dL_isTold_1021 : decode cL_isTold 1021 = .ok (.aload_n 0, 1) := by decide +kernel
theorem dL_isTold_1022 : decode cL_isTold 1022 = .ok (.iconst 4, 1) := by decide +kernel
theorem dL_isTold_1023 : decode cL_isTold 1023 = .ok (.iconst 0, 1) := by decide +kernel
theorem dL_isTold_1024 : decode cL_isTold 1024 = .ok (.invokestatic 155, 3) := by decide +kernel
theorem dL_isTold_1027 : decode cL_isTold 1027 = .ok (.bipush (-71), 2) := by decide +kernel
theorem dL_isTold_1029 : decode cL_isTold 1029 = .ok (.if_icmp .ne 18, 3) := by decide +kernel
theorem dL_isTold_1032 : decode cL_isTold 1032 = .ok (.aload_n 0, 1) := by decide +kernel
theorem dL_isTold_1033 : decode cL_isTold 1033 = .ok (.iconst 0, 1) := by decide +kernel
theorem dL_isTold_1034 : decode cL_isTold 1034 = .ok (.iconst (-1), 1) := by decide +kernel
theorem dL_isTold_1035 : decode cL_isTold 1035 = .ok (.invokestatic 155, 3) := by decide +kernel
theorem dL_isTold_1038 : decode cL_isTold 1038 = .ok (.bipush (-71), 2) := by decide +kernel
theorem dL_isTold_1040 : decode cL_isTold 1040 = .ok (.if_icmp .ne 7, 3) := by decide +kernel
theorem dL_isTold_1043 : decode cL_isTold 1043 = .ok (.iconst 1, 1) := by decide +kernel
theorem dL_isTold_1044 : decode cL_isTold 1044 = .ok (.goto 4, 3) := by decide +kernel
theorem dL_isTold_1047 : decode cL_isTold 1047 = .ok (.iconst 0, 1) := by decide +kernel
theorem dL_isTold_1048 : decode cL_isTold 1048 = .ok (.ireturn, 1) := by decide +kernel
theorem dL_law_0 : decode cL_law 0 = .ok (.new 9, 3) := by decide +kernel
theorem dL_law_3 : decode cL_law 3 = .ok (.dup, 1) := by decide +kernel
theorem dL_law_4 : decode cL_law 4 = .ok (.invokespecial 159, 3) := by decide +kernel
theorem dL_law_7 : decode cL_law 7 = .ok (.astore_n 1, 1) := by decide +kernel
theorem dL_law_8 : decode cL_law 8 = .ok (.iconst 1, 1) := by decide +kernel
theorem dL_law_9 : decode cL_law 9 = .ok (.newarray .long, 2) := by decide +kernel
theorem dL_law_11 : decode cL_law 11 = .ok (.astore_n 2, 1) := by decide +kernel
theorem dL_law_12 : decode cL_law 12 = .ok (.bipush 60, 2) := by decide +kernel
theorem dL_law_14 : decode cL_law 14 = .ok (.newarray .long, 2) := by decide +kernel
theorem dL_law_16 : decode cL_law 16 = .ok (.astore_n 3, 1) := by decide +kernel
theorem dL_law_17 : decode cL_law 17 = .ok (.bipush 60, 2) := by decide +kernel
theorem dL_law_19 : decode cL_law 19 = .ok (.newarray .int, 2) := by decide +kernel
theorem dL_law_21 : decode cL_law 21 = .ok (.astore 4, 2) := by decide +kernel
theorem dL_law_23 : decode cL_law 23 = .ok (.bipush 15, 2) := by decide +kernel
theorem dL_law_25 : decode cL_law 25 = .ok (.newarray .int, 2) := by decide +kernel
theorem dL_law_27 : decode cL_law 27 = .ok (.astore 5, 2) := by decide +kernel
theorem dL_law_29 : decode cL_law 29 = .ok (.bipush 10, 2) := by decide +kernel
theorem dL_law_31 : decode cL_law 31 = .ok (.newarray .int, 2) := by decide +kernel
theorem dL_law_33 : decode cL_law 33 = .ok (.astore 6, 2) := by decide +kernel
theorem dL_law_35 : decode cL_law 35 = .ok (.bipush 60, 2) := by decide +kernel
theorem dL_law_37 : decode cL_law 37 = .ok (.newarray .int, 2) := by decide +kernel
theorem dL_law_39 : decode cL_law 39 = .ok (.astore 7, 2) := by decide +kernel
theorem dL_law_41 : decode cL_law 41 = .ok (.bipush 60, 2) := by decide +kernel
theorem dL_law_43 : decode cL_law 43 = .ok (.newarray .int, 2) := by decide +kernel
theorem dL_law_45 : decode cL_law 45 = .ok (.astore 8, 2) := by decide +kernel
theorem dL_law_47 : decode cL_law 47 = .ok (.iconst 4, 1) := by decide +kernel
theorem dL_law_48 : decode cL_law 48 = .ok (.newarray .int, 2) := by decide +kernel
theorem dL_law_50 : decode cL_law 50 = .ok (.astore 9, 2) := by decide +kernel
theorem dL_law_52 : decode cL_law 52 = .ok (.iconst 4, 1) := by decide +kernel
theorem dL_law_53 : decode cL_law 53 = .ok (.newarray .int, 2) := by decide +kernel
theorem dL_law_55 : decode cL_law 55 = .ok (.astore 10, 2) := by decide +kernel
theorem dL_law_57 : decode cL_law 57 = .ok (.bipush 6, 2) := by decide +kernel
theorem dL_law_59 : decode cL_law 59 = .ok (.newarray .int, 2) := by decide +kernel
theorem dL_law_61 : decode cL_law 61 = .ok (.astore 11, 2) := by decide +kernel
theorem dL_law_63 : decode cL_law 63 = .ok (.bipush 6, 2) := by decide +kernel
theorem dL_law_65 : decode cL_law 65 = .ok (.newarray .int, 2) := by decide +kernel
theorem dL_law_67 : decode cL_law 67 = .ok (.astore 12, 2) := by decide +kernel
theorem dL_law_69 : decode cL_law 69 = .ok (.iconst 0, 1) := by decide +kernel
theorem dL_law_70 : decode cL_law 70 = .ok (.istore 13, 2) := by decide +kernel
theorem dL_law_72 : decode cL_law 72 = .ok (.iload 13, 2) := by decide +kernel
theorem dL_law_74 : decode cL_law 74 = .ok (.iconst 4, 1) := by decide +kernel
theorem dL_law_75 : decode cL_law 75 = .ok (.if_icmp .ge 24, 3) := by decide +kernel
theorem dL_law_78 : decode cL_law 78 = .ok (.aload 9, 2) := by decide +kernel
theorem dL_law_80 : decode cL_law 80 = .ok (.iload 13, 2) := by decide +kernel
theorem dL_law_82 : decode cL_law 82 = .ok (.sipush 12672, 3) := by decide +kernel
theorem dL_law_85 : decode cL_law 85 = .ok (.iastore, 1) := by decide +kernel
theorem dL_law_86 : decode cL_law 86 = .ok (.aload 10, 2) := by decide +kernel
theorem dL_law_88 : decode cL_law 88 = .ok (.iload 13, 2) := by decide +kernel
theorem dL_law_90 : decode cL_law 90 = .ok (.bipush 100, 2) := by decide +kernel
theorem dL_law_92 : decode cL_law 92 = .ok (.iastore, 1) := by decide +kernel
theorem dL_law_93 : decode cL_law 93 = .ok (.iinc 13 1, 3) := by decide +kernel
theorem dL_law_96 : decode cL_law 96 = .ok (.goto (-24), 3) := by decide +kernel
theorem dL_law_99 : decode cL_law 99 = .ok (.aload_n 1, 1) := by decide +kernel
theorem dL_law_100 : decode cL_law 100 = .ok (.iconst 0, 1) := by decide +kernel
theorem dL_law_101 : decode cL_law 101 = .ok (.iconst 0, 1) := by decide +kernel
theorem dL_law_102 : decode cL_law 102 = .ok (.aload_n 3, 1) := by decide +kernel
theorem dL_law_103 : decode cL_law 103 = .ok (.aload 4, 2) := by decide +kernel
theorem dL_law_105 : decode cL_law 105 = .ok (.aload 5, 2) := by decide +kernel
theorem dL_law_107 : decode cL_law 107 = .ok (.aload 7, 2) := by decide +kernel
theorem dL_law_109 : decode cL_law 109 = .ok (.aload 8, 2) := by decide +kernel
theorem dL_law_111 : decode cL_law 111 = .ok (.aload 9, 2) := by decide +kernel
theorem dL_law_113 : decode cL_law 113 = .ok (.aload 12, 2) := by decide +kernel
theorem dL_law_115 : decode cL_law 115 = .ok (.invokestatic 160, 3) := by decide +kernel
theorem dL_law_118 : decode cL_law 118 = .ok (.ifCond .ne 5, 3) := by decide +kernel
theorem dL_law_121 : decode cL_law 121 = .ok (.iconst 0, 1) := by decide +kernel
theorem dL_law_122 : decode cL_law 122 = .ok (.ireturn, 1) := by decide +kernel
theorem dL_law_123 : decode cL_law 123 = .ok (.iconst 0, 1) := by decide +kernel
theorem dL_law_124 : decode cL_law 124 = .ok (.istore 13, 2) := by decide +kernel
theorem dL_law_126 : decode cL_law 126 = .ok (.iload 13, 2) := by decide +kernel
theorem dL_law_128 : decode cL_law 128 = .ok (.sipush 130, 3) := by decide +kernel
theorem dL_law_131 : decode cL_law 131 = .ok (.if_icmp .ge 173, 3) := by decide +kernel
theorem dL_law_134 : decode cL_law 134 = .ok (.aload_n 0, 1) := by decide +kernel
theorem dL_law_135 : decode cL_law 135 = .ok (.iconst 3, 1) := by decide +kernel
theorem dL_law_136 : decode cL_law 136 = .ok (.iload 13, 2) := by decide +kernel
theorem dL_law_138 : decode cL_law 138 = .ok (.imul, 1) := by decide +kernel
theorem dL_law_139 : decode cL_law 139 = .ok (.invokestatic 164, 3) := by decide +kernel
theorem dL_law_142 : decode cL_law 142 = .ok (.istore 14, 2) := by decide +kernel
theorem dL_law_144 : decode cL_law 144 = .ok (.aload_n 0, 1) := by decide +kernel
theorem dL_law_145 : decode cL_law 145 = .ok (.iconst 3, 1) := by decide +kernel
theorem dL_law_146 : decode cL_law 146 = .ok (.iload 13, 2) := by decide +kernel
theorem dL_law_148 : decode cL_law 148 = .ok (.imul, 1) := by decide +kernel
theorem dL_law_149 : decode cL_law 149 = .ok (.iconst 1, 1) := by decide +kernel
theorem dL_law_150 : decode cL_law 150 = .ok (.iadd, 1) := by decide +kernel
theorem dL_law_151 : decode cL_law 151 = .ok (.invokestatic 164, 3) := by decide +kernel
theorem dL_law_154 : decode cL_law 154 = .ok (.istore 15, 2) := by decide +kernel
theorem dL_law_156 : decode cL_law 156 = .ok (.aload_n 0, 1) := by decide +kernel
theorem dL_law_157 : decode cL_law 157 = .ok (.iconst 3, 1) := by decide +kernel
theorem dL_law_158 : decode cL_law 158 = .ok (.iload 13, 2) := by decide +kernel
theorem dL_law_160 : decode cL_law 160 = .ok (.imul, 1) := by decide +kernel
theorem dL_law_161 : decode cL_law 161 = .ok (.iconst 2, 1) := by decide +kernel
theorem dL_law_162 : decode cL_law 162 = .ok (.iadd, 1) := by decide +kernel
theorem dL_law_163 : decode cL_law 163 = .ok (.invokestatic 164, 3) := by decide +kernel
theorem dL_law_166 : decode cL_law 166 = .ok (.istore 16, 2) := by decide +kernel
theorem dL_law_168 : decode cL_law 168 = .ok (.iload 14, 2) := by decide +kernel
theorem dL_law_170 : decode cL_law 170 = .ok (.bipush 24, 2) := by decide +kernel
theorem dL_law_172 : decode cL_law 172 = .ok (.invokestatic 90, 3) := by decide +kernel
theorem dL_law_175 : decode cL_law 175 = .ok (.istore 17, 2) := by decide +kernel
theorem dL_law_177 : decode cL_law 177 = .ok (.iload 17, 2) := by decide +kernel
theorem dL_law_179 : decode cL_law 179 = .ok (.bipush 16, 2) := by decide +kernel
theorem dL_law_181 : decode cL_law 181 = .ok (.if_icmp .ge 31, 3) := by decide +kernel
theorem dL_law_184 : decode cL_law 184 = .ok (.aload_n 1, 1) := by decide +kernel
theorem dL_law_185 : decode cL_law 185 = .ok (.iload 17, 2) := by decide +kernel
theorem dL_law_187 : decode cL_law 187 = .ok (.iload 15, 2) := by decide +kernel
theorem dL_law_189 : decode cL_law 189 = .ok (.aload_n 2, 1) := by decide +kernel
theorem dL_law_190 : decode cL_law 190 = .ok (.aload_n 3, 1) := by decide +kernel
theorem dL_law_191 : decode cL_law 191 = .ok (.aload 4, 2) := by decide +kernel
theorem dL_law_193 : decode cL_law 193 = .ok (.aload 5, 2) := by decide +kernel
theorem dL_law_195 : decode cL_law 195 = .ok (.aload 6, 2) := by decide +kernel
theorem dL_law_197 : decode cL_law 197 = .ok (.aload 7, 2) := by decide +kernel
theorem dL_law_199 : decode cL_law 199 = .ok (.aload 8, 2) := by decide +kernel
theorem dL_law_201 : decode cL_law 201 = .ok (.aload 12, 2) := by decide +kernel
theorem dL_law_203 : decode cL_law 203 = .ok (.invokestatic 167, 3) := by decide +kernel
theorem dL_law_206 : decode cL_law 206 = .ok (.ifCond .eq 90, 3) := by decide +kernel
theorem dL_law_209 : decode cL_law 209 = .ok (.goto 52, 3) := by decide +kernel
theorem dL_law_212 : decode cL_law 212 = .ok (.aload_n 1, 1) := by decide +kernel
theorem dL_law_213 : decode cL_law 213 = .ok (.iload 17, 2) := by decide +kernel
theorem dL_law_215 : decode cL_law 215 = .ok (.bipush 16, 2) := by decide +kernel
theorem dL_law_217 : decode cL_law 217 = .ok (.isub, 1) := by decide +kernel
theorem dL_law_218 : decode cL_law 218 = .ok (.bipush 7, 2) := by decide +kernel
theorem dL_law_220 : decode cL_law 220 = .ok (.if_icmp .ge 11, 3) := by decide +kernel
theorem dL_law_223 : decode cL_law 223 = .ok (.iload 17, 2) := by decide +kernel
theorem dL_law_225 : decode cL_law 225 = .ok (.bipush 16, 2) := by decide +kernel
theorem dL_law_227 : decode cL_law 227 = .ok (.isub, 1) := by decide +kernel
theorem dL_law_228 : decode cL_law 228 = .ok (.goto 5, 3) := by decide +kernel
theorem dL_law_231 : decode cL_law 231 = .ok (.bipush 6, 2) := by decide +kernel
theorem dL_law_233 : decode cL_law 233 = .ok (.iload 15, 2) := by decide +kernel
theorem dL_law_235 : decode cL_law 235 = .ok (.iload 16, 2) := by decide +kernel
theorem dL_law_237 : decode cL_law 237 = .ok (.aload 4, 2) := by decide +kernel
theorem dL_law_239 : decode cL_law 239 = .ok (.aload 5, 2) := by decide +kernel
theorem dL_law_241 : decode cL_law 241 = .ok (.aload 6, 2) := by decide +kernel
theorem dL_law_243 : decode cL_law 243 = .ok (.aload 7, 2) := by decide +kernel
theorem dL_law_245 : decode cL_law 245 = .ok (.aload 8, 2) := by decide +kernel
theorem dL_law_247 : decode cL_law 247 = .ok (.aload 9, 2) := by decide +kernel
theorem dL_law_249 : decode cL_law 249 = .ok (.aload 10, 2) := by decide +kernel
theorem dL_law_251 : decode cL_law 251 = .ok (.aload 11, 2) := by decide +kernel
theorem dL_law_253 : decode cL_law 253 = .ok (.aload 12, 2) := by decide +kernel
theorem dL_law_255 : decode cL_law 255 = .ok (.invokestatic 171, 3) := by decide +kernel
theorem dL_law_258 : decode cL_law 258 = .ok (.ifCond .eq 38, 3) := by decide +kernel
theorem dL_law_261 : decode cL_law 261 = .ok (.aload_n 1, 1) := by decide +kernel
theorem dL_law_262 : decode cL_law 262 = .ok (.iload 14, 2) := by decide +kernel
theorem dL_law_264 : decode cL_law 264 = .ok (.iconst 5, 1) := by decide +kernel
theorem dL_law_265 : decode cL_law 265 = .ok (.ishr, 1) := by decide +kernel
theorem dL_law_266 : decode cL_law 266 = .ok (.iload 15, 2) := by decide +kernel
theorem dL_law_268 : decode cL_law 268 = .ok (.ixor, 1) := by decide +kernel
theorem dL_law_269 : decode cL_law 269 = .ok (.iload 16, 2) := by decide +kernel
theorem dL_law_271 : decode cL_law 271 = .ok (.iload 14, 2) := by decide +kernel
theorem dL_law_273 : decode cL_law 273 = .ok (.bipush 7, 2) := by decide +kernel
theorem dL_law_275 : decode cL_law 275 = .ok (.ishr, 1) := by decide +kernel
theorem dL_law_276 : decode cL_law 276 = .ok (.ixor, 1) := by decide +kernel
theorem dL_law_277 : decode cL_law 277 = .ok (.aload_n 3, 1) := by decide +kernel
theorem dL_law_278 : decode cL_law 278 = .ok (.aload 4, 2) := by decide +kernel
theorem dL_law_280 : decode cL_law 280 = .ok (.aload 5, 2) := by decide +kernel
theorem dL_law_282 : decode cL_law 282 = .ok (.aload 7, 2) := by decide +kernel
theorem dL_law_284 : decode cL_law 284 = .ok (.aload 8, 2) := by decide +kernel
theorem dL_law_286 : decode cL_law 286 = .ok (.aload 9, 2) := by decide +kernel
theorem dL_law_288 : decode cL_law 288 = .ok (.aload 12, 2) := by decide +kernel
theorem dL_law_290 : decode cL_law 290 = .ok (.invokestatic 160, 3) := by decide +kernel
theorem dL_law_293 : decode cL_law 293 = .ok (.ifCond .ne 5, 3) := by decide +kernel
theorem dL_law_296 : decode cL_law 296 = .ok (.iconst 0, 1) := by decide +kernel
theorem dL_law_297 : decode cL_law 297 = .ok (.ireturn, 1) := by decide +kernel
theorem dL_law_298 : decode cL_law 298 = .ok (.iinc 13 1, 3) := by decide +kernel
theorem dL_law_301 : decode cL_law 301 = .ok (.goto (-175), 3) := by decide +kernel
theorem dL_law_304 : decode cL_law 304 = .ok (.iconst 1, 1) := by decide +kernel
theorem dL_law_305 : decode cL_law 305 = .ok (.ireturn, 1) := by decide +kernel

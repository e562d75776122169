theorem dX0_init_0 : decode cX0_init 0 = .ok (.aload_n 0, 1) := by decide +kernel
theorem dX0_init_1 : decode cX0_init 1 = .ok (.invokespecial 3, 3) := by decide +kernel
theorem dX0_init_4 : decode cX0_init 4 = .ok (.aload_n 0, 1) := by decide +kernel
theorem dX0_init_5 : decode cX0_init 5 = .ok (.aload_n 1, 1) := by decide +kernel
theorem dX0_init_6 : decode cX0_init 6 = .ok (.putfield 9, 3) := by decide +kernel
theorem dX0_init_9 : decode cX0_init 9 = .ok (.aload_n 0, 1) := by decide +kernel
theorem dX0_init_10 : decode cX0_init 10 = .ok (.iload_n 2, 1) := by decide +kernel
theorem dX0_init_11 : decode cX0_init 11 = .ok (.putfield 15, 3) := by decide +kernel
theorem dX0_init_14 : decode cX0_init 14 = .ok (.aload_n 0, 1) := by decide +kernel
theorem dX0_init_15 : decode cX0_init 15 = .ok (.iload_n 3, 1) := by decide +kernel
theorem dX0_init_16 : decode cX0_init 16 = .ok (.putfield 19, 3) := by decide +kernel
theorem dX0_init_19 : decode cX0_init 19 = .ok (.aload_n 0, 1) := by decide +kernel
theorem dX0_init_20 : decode cX0_init 20 = .ok (.iload 4, 2) := by decide +kernel
theorem dX0_init_22 : decode cX0_init 22 = .ok (.putfield 22, 3) := by decide +kernel
theorem dX0_init_25 : decode cX0_init 25 = .ok (.return_, 1) := by decide +kernel
theorem dX0_fits_0 : decode cX0_fits 0 = .ok (.iload_n 1, 1) := by decide +kernel
theorem dX0_fits_1 : decode cX0_fits 1 = .ok (.iconst (-1), 1) := by decide +kernel
theorem dX0_fits_2 : decode cX0_fits 2 = .ok (.if_icmp .eq 11, 3) := by decide +kernel
theorem dX0_fits_5 : decode cX0_fits 5 = .ok (.iload_n 1, 1) := by decide +kernel
theorem dX0_fits_6 : decode cX0_fits 6 = .ok (.aload_n 0, 1) := by decide +kernel
theorem dX0_fits_7 : decode cX0_fits 7 = .ok (.getfield 19, 3) := by decide +kernel
theorem dX0_fits_10 : decode cX0_fits 10 = .ok (.if_icmp .ne 31, 3) := by decide +kernel
theorem dX0_fits_13 : decode cX0_fits 13 = .ok (.iload_n 2, 1) := by decide +kernel
theorem dX0_fits_14 : decode cX0_fits 14 = .ok (.iconst (-1), 1) := by decide +kernel
theorem dX0_fits_15 : decode cX0_fits 15 = .ok (.if_icmp .eq 11, 3) := by decide +kernel
theorem dX0_fits_18 : decode cX0_fits 18 = .ok (.iload_n 2, 1) := by decide +kernel
theorem dX0_fits_19 : decode cX0_fits 19 = .ok (.aload_n 0, 1) := by decide +kernel
theorem dX0_fits_20 : decode cX0_fits 20 = .ok (.getfield 22, 3) := by decide +kernel
theorem dX0_fits_23 : decode cX0_fits 23 = .ok (.if_icmp .ne 18, 3) := by decide +kernel
theorem dX0_fits_26 : decode cX0_fits 26 = .ok (.aload_n 0, 1) := by decide +kernel
theorem dX0_fits_27 : decode cX0_fits 27 = .ok (.getfield 9, 3) := by decide +kernel
theorem dX0_fits_30 : decode cX0_fits 30 = .ok (.getfield 25, 3) := by decide +kernel
theorem dX0_fits_33 : decode cX0_fits 33 = .ok (.iload_n 3, 1) := by decide +kernel
theorem dX0_fits_34 : decode cX0_fits 34 = .ok (.if_icmp .lt 7, 3) := by decide +kernel
theorem dX0_fits_37 : decode cX0_fits 37 = .ok (.iconst 1, 1) := by decide +kernel
theorem dX0_fits_38 : decode cX0_fits 38 = .ok (.goto 4, 3) := by decide +kernel
theorem dX0_fits_41 : decode cX0_fits 41 = .ok (.iconst 0, 1) := by decide +kernel
theorem dX0_fits_42 : decode cX0_fits 42 = .ok (.ireturn, 1) := by decide +kernel
theorem dX1_init_0 : decode cX1_init 0 = .ok (.aload_n 0, 1) := by decide +kernel
theorem dX1_init_1 : decode cX1_init 1 = .ok (.invokespecial 1, 3) := by decide +kernel
theorem dX1_init_4 : decode cX1_init 4 = .ok (.aload_n 0, 1) := by decide +kernel
theorem dX1_init_5 : decode cX1_init 5 = .ok (.iload_n 1, 1) := by decide +kernel
theorem dX1_init_6 : decode cX1_init 6 = .ok (.putfield 7, 3) := by decide +kernel
theorem dX1_init_9 : decode cX1_init 9 = .ok (.aload_n 0, 1) := by decide +kernel
theorem dX1_init_10 : decode cX1_init 10 = .ok (.iload_n 2, 1) := by decide +kernel
theorem dX1_init_11 : decode cX1_init 11 = .ok (.putfield 13, 3) := by decide +kernel
theorem dX1_init_14 : decode cX1_init 14 = .ok (.aload_n 0, 1) := by decide +kernel
theorem dX1_init_15 : decode cX1_init 15 = .ok (.iload_n 3, 1) := by decide +kernel
theorem dX1_init_16 : decode cX1_init 16 = .ok (.putfield 16, 3) := by decide +kernel
theorem dX1_init_19 : decode cX1_init 19 = .ok (.return_, 1) := by decide +kernel
theorem dX2_init_0 : decode cX2_init 0 = .ok (.aload_n 0, 1) := by decide +kernel
theorem dX2_init_1 : decode cX2_init 1 = .ok (.invokespecial 3, 3) := by decide +kernel
theorem dX2_init_4 : decode cX2_init 4 = .ok (.aload_n 0, 1) := by decide +kernel
theorem dX2_init_5 : decode cX2_init 5 = .ok (.bipush 8, 2) := by decide +kernel
theorem dX2_init_7 : decode cX2_init 7 = .ok (.newarray .int, 2) := by decide +kernel
theorem dX2_init_9 : decode cX2_init 9 = .ok (.putfield 9, 3) := by decide +kernel
theorem dX2_init_12 : decode cX2_init 12 = .ok (.aload_n 0, 1) := by decide +kernel
theorem dX2_init_13 : decode cX2_init 13 = .ok (.iconst 1, 1) := by decide +kernel
theorem dX2_init_14 : decode cX2_init 14 = .ok (.putfield 15, 3) := by decide +kernel
theorem dX2_init_17 : decode cX2_init 17 = .ok (.return_, 1) := by decide +kernel
theorem dX2_isEmpty_0 : decode cX2_isEmpty 0 = .ok (.aload_n 0, 1) := by decide +kernel
theorem dX2_isEmpty_1 : decode cX2_isEmpty 1 = .ok (.getfield 19, 3) := by decide +kernel
theorem dX2_isEmpty_4 : decode cX2_isEmpty 4 = .ok (.ifCond .ne 7, 3) := by decide +kernel
theorem dX2_isEmpty_7 : decode cX2_isEmpty 7 = .ok (.iconst 1, 1) := by decide +kernel
theorem dX2_isEmpty_8 : decode cX2_isEmpty 8 = .ok (.goto 4, 3) := by decide +kernel
theorem dX2_isEmpty_11 : decode cX2_isEmpty 11 = .ok (.iconst 0, 1) := by decide +kernel
theorem dX2_isEmpty_12 : decode cX2_isEmpty 12 = .ok (.ireturn, 1) := by decide +kernel
theorem dX2_put_0 : decode cX2_put 0 = .ok (.aload_n 0, 1) := by decide +kernel
theorem dX2_put_1 : decode cX2_put 1 = .ok (.getfield 19, 3) := by decide +kernel
theorem dX2_put_4 : decode cX2_put 4 = .ok (.ifCond .lt 15, 3) := by decide +kernel
theorem dX2_put_7 : decode cX2_put 7 = .ok (.aload_n 0, 1) := by decide +kernel
theorem dX2_put_8 : decode cX2_put 8 = .ok (.getfield 19, 3) := by decide +kernel
theorem dX2_put_11 : decode cX2_put 11 = .ok (.aload_n 0, 1) := by decide +kernel
theorem dX2_put_12 : decode cX2_put 12 = .ok (.getfield 9, 3) := by decide +kernel
theorem dX2_put_15 : decode cX2_put 15 = .ok (.arraylength, 1) := by decide +kernel
theorem dX2_put_16 : decode cX2_put 16 = .ok (.if_icmp .lt 5, 3) := by decide +kernel
theorem dX2_put_19 : decode cX2_put 19 = .ok (.iconst 0, 1) := by decide +kernel
theorem dX2_put_20 : decode cX2_put 20 = .ok (.ireturn, 1) := by decide +kernel
theorem dX2_put_21 : decode cX2_put 21 = .ok (.aload_n 0, 1) := by decide +kernel
theorem dX2_put_22 : decode cX2_put 22 = .ok (.getfield 9, 3) := by decide +kernel
theorem dX2_put_25 : decode cX2_put 25 = .ok (.aload_n 0, 1) := by decide +kernel
theorem dX2_put_26 : decode cX2_put 26 = .ok (.getfield 19, 3) := by decide +kernel
theorem dX2_put_29 : decode cX2_put 29 = .ok (.iload_n 1, 1) := by decide +kernel
theorem dX2_put_30 : decode cX2_put 30 = .ok (.iastore, 1) := by decide +kernel
theorem dX2_put_31 : decode cX2_put 31 = .ok (.aload_n 0, 1) := by decide +kernel
theorem dX2_put_32 : decode cX2_put 32 = .ok (.dup, 1) := by decide +kernel
theorem dX2_put_33 : decode cX2_put 33 = .ok (.getfield 19, 3) := by decide +kernel
theorem dX2_put_36 : decode cX2_put 36 = .ok (.iconst 1, 1) := by decide +kernel
theorem dX2_put_37 : decode cX2_put 37 = .ok (.iadd, 1) := by decide +kernel
theorem dX2_put_38 : decode cX2_put 38 = .ok (.putfield 19, 3) := by decide +kernel
theorem dX2_put_41 : decode cX2_put 41 = .ok (.iconst 1, 1) := by decide +kernel
theorem dX2_put_42 : decode cX2_put 42 = .ok (.ireturn, 1) := by decide +kernel
theorem dX2_has_0 : decode cX2_has 0 = .ok (.iload_n 1, 1) := by decide +kernel
theorem dX2_has_1 : decode cX2_has 1 = .ok (.ifCond .lt 24, 3) := by decide +kernel
theorem dX2_has_4 : decode cX2_has 4 = .ok (.iload_n 1, 1) := by decide +kernel
theorem dX2_has_5 : decode cX2_has 5 = .ok (.aload_n 0, 1) := by decide +kernel
theorem dX2_has_6 : decode cX2_has 6 = .ok (.getfield 19, 3) := by decide +kernel
theorem dX2_has_9 : decode cX2_has 9 = .ok (.if_icmp .ge 16, 3) := by decide +kernel
theorem dX2_has_12 : decode cX2_has 12 = .ok (.iload_n 1, 1) := by decide +kernel
theorem dX2_has_13 : decode cX2_has 13 = .ok (.aload_n 0, 1) := by decide +kernel
theorem dX2_has_14 : decode cX2_has 14 = .ok (.getfield 9, 3) := by decide +kernel
theorem dX2_has_17 : decode cX2_has 17 = .ok (.arraylength, 1) := by decide +kernel
theorem dX2_has_18 : decode cX2_has 18 = .ok (.if_icmp .ge 7, 3) := by decide +kernel
theorem dX2_has_21 : decode cX2_has 21 = .ok (.iconst 1, 1) := by decide +kernel
theorem dX2_has_22 : decode cX2_has 22 = .ok (.goto 4, 3) := by decide +kernel
theorem dX2_has_25 : decode cX2_has 25 = .ok (.iconst 0, 1) := by decide +kernel
theorem dX2_has_26 : decode cX2_has 26 = .ok (.ireturn, 1) := by decide +kernel
theorem dX2_valueAt_0 : decode cX2_valueAt 0 = .ok (.aload_n 0, 1) := by decide +kernel
theorem dX2_valueAt_1 : decode cX2_valueAt 1 = .ok (.iload_n 1, 1) := by decide +kernel
theorem dX2_valueAt_2 : decode cX2_valueAt 2 = .ok (.invokevirtual 22, 3) := by decide +kernel
theorem dX2_valueAt_5 : decode cX2_valueAt 5 = .ok (.ifCond .eq 12, 3) := by decide +kernel
theorem dX2_valueAt_8 : decode cX2_valueAt 8 = .ok (.aload_n 0, 1) := by decide +kernel
theorem dX2_valueAt_9 : decode cX2_valueAt 9 = .ok (.getfield 9, 3) := by decide +kernel
theorem dX2_valueAt_12 : decode cX2_valueAt 12 = .ok (.iload_n 1, 1) := by decide +kernel
theorem dX2_valueAt_13 : decode cX2_valueAt 13 = .ok (.iaload, 1) := by decide +kernel
theorem dX2_valueAt_14 : decode cX2_valueAt 14 = .ok (.goto 4, 3) := by decide +kernel
theorem dX2_valueAt_17 : decode cX2_valueAt 17 = .ok (.iconst (-1), 1) := by decide +kernel
theorem dX2_valueAt_18 : decode cX2_valueAt 18 = .ok (.ireturn, 1) := by decide +kernel
theorem dX2_hasLinesOf_0 : decode cX2_hasLinesOf 0 = .ok (.aload_n 0, 1) := by decide +kernel
theorem dX2_hasLinesOf_1 : decode cX2_hasLinesOf 1 = .ok (.getfield 19, 3) := by decide +kernel
theorem dX2_hasLinesOf_4 : decode cX2_hasLinesOf 4 = .ok (.aload_n 1, 1) := by decide +kernel
theorem dX2_hasLinesOf_5 : decode cX2_hasLinesOf 5 = .ok (.getfield 19, 3) := by decide +kernel
theorem dX2_hasLinesOf_8 : decode cX2_hasLinesOf 8 = .ok (.if_icmp .eq 5, 3) := by decide +kernel
theorem dX2_hasLinesOf_11 : decode cX2_hasLinesOf 11 = .ok (.iconst 0, 1) := by decide +kernel
theorem dX2_hasLinesOf_12 : decode cX2_hasLinesOf 12 = .ok (.ireturn, 1) := by decide +kernel
theorem dX2_hasLinesOf_13 : decode cX2_hasLinesOf 13 = .ok (.iconst 0, 1) := by decide +kernel
theorem dX2_hasLinesOf_14 : decode cX2_hasLinesOf 14 = .ok (.istore_n 2, 1) := by decide +kernel
theorem dX2_hasLinesOf_15 : decode cX2_hasLinesOf 15 = .ok (.iload_n 2, 1) := by decide +kernel
theorem dX2_hasLinesOf_16 : decode cX2_hasLinesOf 16 = .ok (.aload_n 0, 1) := by decide +kernel
theorem dX2_hasLinesOf_17 : decode cX2_hasLinesOf 17 = .ok (.getfield 19, 3) := by decide +kernel
theorem dX2_hasLinesOf_20 : decode cX2_hasLinesOf 20 = .ok (.if_icmp .ge 24, 3) := by decide +kernel
theorem dX2_hasLinesOf_23 : decode cX2_hasLinesOf 23 = .ok (.aload_n 0, 1) := by decide +kernel
theorem dX2_hasLinesOf_24 : decode cX2_hasLinesOf 24 = .ok (.iload_n 2, 1) := by decide +kernel
theorem dX2_hasLinesOf_25 : decode cX2_hasLinesOf 25 = .ok (.invokevirtual 26, 3) := by decide +kernel
theorem dX2_hasLinesOf_28 : decode cX2_hasLinesOf 28 = .ok (.aload_n 1, 1) := by decide +kernel
theorem dX2_hasLinesOf_29 : decode cX2_hasLinesOf 29 = .ok (.iload_n 2, 1) := by decide +kernel
theorem dX2_hasLinesOf_30 : decode cX2_hasLinesOf 30 = .ok (.invokevirtual 26, 3) := by decide +kernel
theorem dX2_hasLinesOf_33 : decode cX2_hasLinesOf 33 = .ok (.if_icmp .eq 5, 3) := by decide +kernel
theorem dX2_hasLinesOf_36 : decode cX2_hasLinesOf 36 = .ok (.iconst 0, 1) := by decide +kernel
theorem dX2_hasLinesOf_37 : decode cX2_hasLinesOf 37 = .ok (.ireturn, 1) := by decide +kernel
theorem dX2_hasLinesOf_38 : decode cX2_hasLinesOf 38 = .ok (.iinc 2 1, 3) := by decide +kernel
theorem dX2_hasLinesOf_41 : decode cX2_hasLinesOf 41 = .ok (.goto (-26), 3) := by decide +kernel
theorem dX2_hasLinesOf_44 : decode cX2_hasLinesOf 44 = .ok (.iconst 1, 1) := by decide +kernel
theorem dX2_hasLinesOf_45 : decode cX2_hasLinesOf 45 = .ok (.ireturn, 1) := by decide +kernel
theorem dX3_init_0 : decode cX3_init 0 = .ok (.aload_n 0, 1) := by decide +kernel
theorem dX3_init_1 : decode cX3_init 1 = .ok (.invokespecial 3, 3) := by decide +kernel
theorem dX3_init_4 : decode cX3_init 4 = .ok (.aload_n 0, 1) := by decide +kernel
theorem dX3_init_5 : decode cX3_init 5 = .ok (.iconst 0, 1) := by decide +kernel
theorem dX3_init_6 : decode cX3_init 6 = .ok (.putfield 9, 3) := by decide +kernel
theorem dX3_init_9 : decode cX3_init 9 = .ok (.aload_n 0, 1) := by decide +kernel
theorem dX3_init_10 : decode cX3_init 10 = .ok (.bipush 99, 2) := by decide +kernel
theorem dX3_init_12 : decode cX3_init 12 = .ok (.putfield 15, 3) := by decide +kernel
theorem dX3_init_15 : decode cX3_init 15 = .ok (.aload_n 0, 1) := by decide +kernel
theorem dX3_init_16 : decode cX3_init 16 = .ok (.iconst (-1), 1) := by decide +kernel
theorem dX3_init_17 : decode cX3_init 17 = .ok (.putfield 18, 3) := by decide +kernel
theorem dX3_init_20 : decode cX3_init 20 = .ok (.aload_n 0, 1) := by decide +kernel
theorem dX3_init_21 : decode cX3_init 21 = .ok (.iload_n 1, 1) := by decide +kernel
theorem dX3_init_22 : decode cX3_init 22 = .ok (.putfield 21, 3) := by decide +kernel
theorem dX3_init_25 : decode cX3_init 25 = .ok (.return_, 1) := by decide +kernel
theorem dX3_sees_0 : decode cX3_sees 0 = .ok (.aload_n 1, 1) := by decide +kernel
theorem dX3_sees_1 : decode cX3_sees 1 = .ok (.getfield 25, 3) := by decide +kernel
theorem dX3_sees_4 : decode cX3_sees 4 = .ok (.ifCond .eq 5, 3) := by decide +kernel
theorem dX3_sees_7 : decode cX3_sees 7 = .ok (.iconst 0, 1) := by decide +kernel
theorem dX3_sees_8 : decode cX3_sees 8 = .ok (.ireturn, 1) := by decide +kernel
theorem dX3_sees_9 : decode cX3_sees 9 = .ok (.aload_n 1, 1) := by decide +kernel
theorem dX3_sees_10 : decode cX3_sees 10 = .ok (.getfield 30, 3) := by decide +kernel
theorem dX3_sees_13 : decode cX3_sees 13 = .ok (.iconst (-1), 1) := by decide +kernel
theorem dX3_sees_14 : decode cX3_sees 14 = .ok (.if_icmp .ne 8, 3) := by decide +kernel
theorem dX3_sees_17 : decode cX3_sees 17 = .ok (.aload_n 0, 1) := by decide +kernel
theorem dX3_sees_18 : decode cX3_sees 18 = .ok (.getfield 21, 3) := by decide +kernel
theorem dX3_sees_21 : decode cX3_sees 21 = .ok (.ireturn, 1) := by decide +kernel
theorem dX3_sees_22 : decode cX3_sees 22 = .ok (.aload_n 1, 1) := by decide +kernel
theorem dX3_sees_23 : decode cX3_sees 23 = .ok (.getfield 30, 3) := by decide +kernel
theorem dX3_sees_26 : decode cX3_sees 26 = .ok (.aload_n 0, 1) := by decide +kernel
theorem dX3_sees_27 : decode cX3_sees 27 = .ok (.getfield 9, 3) := by decide +kernel
theorem dX3_sees_30 : decode cX3_sees 30 = .ok (.if_icmp .lt 18, 3) := by decide +kernel
theorem dX3_sees_33 : decode cX3_sees 33 = .ok (.aload_n 1, 1) := by decide +kernel
theorem dX3_sees_34 : decode cX3_sees 34 = .ok (.getfield 30, 3) := by decide +kernel
theorem dX3_sees_37 : decode cX3_sees 37 = .ok (.aload_n 0, 1) := by decide +kernel
theorem dX3_sees_38 : decode cX3_sees 38 = .ok (.getfield 15, 3) := by decide +kernel
theorem dX3_sees_41 : decode cX3_sees 41 = .ok (.if_icmp .gt 7, 3) := by decide +kernel
theorem dX3_sees_44 : decode cX3_sees 44 = .ok (.iconst 1, 1) := by decide +kernel
theorem dX3_sees_45 : decode cX3_sees 45 = .ok (.goto 4, 3) := by decide +kernel
theorem dX3_sees_48 : decode cX3_sees 48 = .ok (.iconst 0, 1) := by decide +kernel
theorem dX3_sees_49 : decode cX3_sees 49 = .ok (.ireturn, 1) := by decide +kernel
theorem dX4_init_0 : decode cX4_init 0 = .ok (.aload_n 0, 1) := by decide +kernel
theorem dX4_init_1 : decode cX4_init 1 = .ok (.invokespecial 1, 3) := by decide +kernel
theorem dX4_init_4 : decode cX4_init 4 = .ok (.aload_n 0, 1) := by decide +kernel
theorem dX4_init_5 : decode cX4_init 5 = .ok (.new 7, 3) := by decide +kernel
theorem dX4_init_8 : decode cX4_init 8 = .ok (.dup, 1) := by decide +kernel
theorem dX4_init_9 : decode cX4_init 9 = .ok (.invokespecial 9, 3) := by decide +kernel
theorem dX4_init_12 : decode cX4_init 12 = .ok (.putfield 10, 3) := by decide +kernel
theorem dX4_init_15 : decode cX4_init 15 = .ok (.return_, 1) := by decide +kernel
theorem dX4_isLike_0 : decode cX4_isLike 0 = .ok (.aload_n 0, 1) := by decide +kernel
theorem dX4_isLike_1 : decode cX4_isLike 1 = .ok (.getfield 16, 3) := by decide +kernel
theorem dX4_isLike_4 : decode cX4_isLike 4 = .ok (.aload_n 1, 1) := by decide +kernel
theorem dX4_isLike_5 : decode cX4_isLike 5 = .ok (.getfield 16, 3) := by decide +kernel
theorem dX4_isLike_8 : decode cX4_isLike 8 = .ok (.if_icmp .ne 20, 3) := by decide +kernel
theorem dX4_isLike_11 : decode cX4_isLike 11 = .ok (.aload_n 0, 1) := by decide +kernel
theorem dX4_isLike_12 : decode cX4_isLike 12 = .ok (.getfield 10, 3) := by decide +kernel
theorem dX4_isLike_15 : decode cX4_isLike 15 = .ok (.invokevirtual 20, 3) := by decide +kernel
theorem dX4_isLike_18 : decode cX4_isLike 18 = .ok (.aload_n 1, 1) := by decide +kernel
theorem dX4_isLike_19 : decode cX4_isLike 19 = .ok (.getfield 10, 3) := by decide +kernel
theorem dX4_isLike_22 : decode cX4_isLike 22 = .ok (.invokevirtual 20, 3) := by decide +kernel
theorem dX4_isLike_25 : decode cX4_isLike 25 = .ok (.if_icmp .eq 5, 3) := by decide +kernel
theorem dX4_isLike_28 : decode cX4_isLike 28 = .ok (.iconst 0, 1) := by decide +kernel
theorem dX4_isLike_29 : decode cX4_isLike 29 = .ok (.ireturn, 1) := by decide +kernel
theorem dX4_isLike_30 : decode cX4_isLike 30 = .ok (.iconst 0, 1) := by decide +kernel
theorem dX4_isLike_31 : decode cX4_isLike 31 = .ok (.istore_n 2, 1) := by decide +kernel
theorem dX4_isLike_32 : decode cX4_isLike 32 = .ok (.iload_n 2, 1) := by decide +kernel
theorem dX4_isLike_33 : decode cX4_isLike 33 = .ok (.aload_n 0, 1) := by decide +kernel
theorem dX4_isLike_34 : decode cX4_isLike 34 = .ok (.getfield 10, 3) := by decide +kernel
theorem dX4_isLike_37 : decode cX4_isLike 37 = .ok (.invokevirtual 20, 3) := by decide +kernel
theorem dX4_isLike_40 : decode cX4_isLike 40 = .ok (.if_icmp .ge 50, 3) := by decide +kernel
theorem dX4_isLike_43 : decode cX4_isLike 43 = .ok (.iload_n 2, 1) := by decide +kernel
theorem dX4_isLike_44 : decode cX4_isLike 44 = .ok (.aload_n 1, 1) := by decide +kernel
theorem dX4_isLike_45 : decode cX4_isLike 45 = .ok (.getfield 10, 3) := by decide +kernel
theorem dX4_isLike_48 : decode cX4_isLike 48 = .ok (.invokevirtual 20, 3) := by decide +kernel
theorem dX4_isLike_51 : decode cX4_isLike 51 = .ok (.if_icmp .ge 39, 3) := by decide +kernel
theorem dX4_isLike_54 : decode cX4_isLike 54 = .ok (.aload_n 0, 1) := by decide +kernel
theorem dX4_isLike_55 : decode cX4_isLike 55 = .ok (.getfield 10, 3) := by decide +kernel
theorem dX4_isLike_58 : decode cX4_isLike 58 = .ok (.iload_n 2, 1) := by decide +kernel
theorem dX4_isLike_59 : decode cX4_isLike 59 = .ok (.invokevirtual 24, 3) := by decide +kernel
theorem dX4_isLike_62 : decode cX4_isLike 62 = .ok (.checkcast 28, 3) := by decide +kernel
theorem dX4_isLike_65 : decode cX4_isLike 65 = .ok (.aload_n 1, 1) := by decide +kernel
theorem dX4_isLike_66 : decode cX4_isLike 66 = .ok (.getfield 10, 3) := by decide +kernel
theorem dX4_isLike_69 : decode cX4_isLike 69 = .ok (.iload_n 2, 1) := by decide +kernel
theorem dX4_isLike_70 : decode cX4_isLike 70 = .ok (.invokevirtual 24, 3) := by decide +kernel
theorem dX4_isLike_73 : decode cX4_isLike 73 = .ok (.checkcast 28, 3) := by decide +kernel
theorem dX4_isLike_76 : decode cX4_isLike 76 = .ok (.invokevirtual 30, 3) := by decide +kernel
theorem dX4_isLike_79 : decode cX4_isLike 79 = .ok (.ifCond .ne 5, 3) := by decide +kernel
theorem dX4_isLike_82 : decode cX4_isLike 82 = .ok (.iconst 0, 1) := by decide +kernel
theorem dX4_isLike_83 : decode cX4_isLike 83 = .ok (.ireturn, 1) := by decide +kernel
theorem dX4_isLike_84 : decode cX4_isLike 84 = .ok (.iinc 2 1, 3) := by decide +kernel
theorem dX4_isLike_87 : decode cX4_isLike 87 = .ok (.goto (-55), 3) := by decide +kernel
theorem dX4_isLike_90 : decode cX4_isLike 90 = .ok (.iconst 1, 1) := by decide +kernel
theorem dX4_isLike_91 : decode cX4_isLike 91 = .ok (.ireturn, 1) := by decide +kernel
theorem dX5_init_0 : decode cX5_init 0 = .ok (.aload_n 0, 1) := by decide +kernel
theorem dX5_init_1 : decode cX5_init 1 = .ok (.invokespecial 3, 3) := by decide +kernel
theorem dX5_init_4 : decode cX5_init 4 = .ok (.aload_n 0, 1) := by decide +kernel
theorem dX5_init_5 : decode cX5_init 5 = .ok (.new 9, 3) := by decide +kernel
theorem dX5_init_8 : decode cX5_init 8 = .ok (.dup, 1) := by decide +kernel
theorem dX5_init_9 : decode cX5_init 9 = .ok (.iconst 0, 1) := by decide +kernel
theorem dX5_init_10 : decode cX5_init 10 = .ok (.iconst 0, 1) := by decide +kernel
theorem dX5_init_11 : decode cX5_init 11 = .ok (.iconst 1, 1) := by decide +kernel
theorem dX5_init_12 : decode cX5_init 12 = .ok (.invokespecial 11, 3) := by decide +kernel
theorem dX5_init_15 : decode cX5_init 15 = .ok (.putfield 14, 3) := by decide +kernel
theorem dX5_init_18 : decode cX5_init 18 = .ok (.aload_n 0, 1) := by decide +kernel
theorem dX5_init_19 : decode cX5_init 19 = .ok (.new 18, 3) := by decide +kernel
theorem dX5_init_22 : decode cX5_init 22 = .ok (.dup, 1) := by decide +kernel
theorem dX5_init_23 : decode cX5_init 23 = .ok (.invokespecial 20, 3) := by decide +kernel
theorem dX5_init_26 : decode cX5_init 26 = .ok (.putfield 21, 3) := by decide +kernel
theorem dX5_init_29 : decode cX5_init 29 = .ok (.aload_n 0, 1) := by decide +kernel
theorem dX5_init_30 : decode cX5_init 30 = .ok (.new 18, 3) := by decide +kernel
theorem dX5_init_33 : decode cX5_init 33 = .ok (.dup, 1) := by decide +kernel
theorem dX5_init_34 : decode cX5_init 34 = .ok (.invokespecial 20, 3) := by decide +kernel
theorem dX5_init_37 : decode cX5_init 37 = .ok (.putfield 25, 3) := by decide +kernel
theorem dX5_init_40 : decode cX5_init 40 = .ok (.aload_n 0, 1) := by decide +kernel
theorem dX5_init_41 : decode cX5_init 41 = .ok (.new 28, 3) := by decide +kernel
theorem dX5_init_44 : decode cX5_init 44 = .ok (.dup, 1) := by decide +kernel
theorem dX5_init_45 : decode cX5_init 45 = .ok (.invokespecial 30, 3) := by decide +kernel
theorem dX5_init_48 : decode cX5_init 48 = .ok (.putfield 31, 3) := by decide +kernel
theorem dX5_init_51 : decode cX5_init 51 = .ok (.aload_n 0, 1) := by decide +kernel
theorem dX5_init_52 : decode cX5_init 52 = .ok (.new 35, 3) := by decide +kernel
theorem dX5_init_55 : decode cX5_init 55 = .ok (.dup, 1) := by decide +kernel
theorem dX5_init_56 : decode cX5_init 56 = .ok (.invokespecial 37, 3) := by decide +kernel
theorem dX5_init_59 : decode cX5_init 59 = .ok (.putfield 38, 3) := by decide +kernel
theorem dX5_init_62 : decode cX5_init 62 = .ok (.aload_n 0, 1) := by decide +kernel
theorem dX5_init_63 : decode cX5_init 63 = .ok (.new 18, 3) := by decide +kernel
theorem dX5_init_66 : decode cX5_init 66 = .ok (.dup, 1) := by decide +kernel
theorem dX5_init_67 : decode cX5_init 67 = .ok (.invokespecial 20, 3) := by decide +kernel
theorem dX5_init_70 : decode cX5_init 70 = .ok (.putfield 42, 3) := by decide +kernel
theorem dX5_init_73 : decode cX5_init 73 = .ok (.aload_n 0, 1) := by decide +kernel
theorem dX5_init_74 : decode cX5_init 74 = .ok (.new 18, 3) := by decide +kernel
theorem dX5_init_77 : decode cX5_init 77 = .ok (.dup, 1) := by decide +kernel
theorem dX5_init_78 : decode cX5_init 78 = .ok (.invokespecial 20, 3) := by decide +kernel
theorem dX5_init_81 : decode cX5_init 81 = .ok (.putfield 45, 3) := by decide +kernel
theorem dX5_init_84 : decode cX5_init 84 = .ok (.aload_n 0, 1) := by decide +kernel
theorem dX5_init_85 : decode cX5_init 85 = .ok (.iconst 4, 1) := by decide +kernel
theorem dX5_init_86 : decode cX5_init 86 = .ok (.newarray .int, 2) := by decide +kernel
theorem dX5_init_88 : decode cX5_init 88 = .ok (.putfield 48, 3) := by decide +kernel
theorem dX5_init_91 : decode cX5_init 91 = .ok (.aload_n 0, 1) := by decide +kernel
theorem dX5_init_92 : decode cX5_init 92 = .ok (.bipush 100, 2) := by decide +kernel
theorem dX5_init_94 : decode cX5_init 94 = .ok (.newarray .boolean, 2) := by decide +kernel
theorem dX5_init_96 : decode cX5_init 96 = .ok (.putfield 52, 3) := by decide +kernel
theorem dX5_init_99 : decode cX5_init 99 = .ok (.iconst 0, 1) := by decide +kernel
theorem dX5_init_100 : decode cX5_init 100 = .ok (.istore_n 1, 1) := by decide +kernel
theorem dX5_init_101 : decode cX5_init 101 = .ok (.iload_n 1, 1) := by decide +kernel
theorem dX5_init_102 : decode cX5_init 102 = .ok (.iconst 4, 1) := by decide +kernel
theorem dX5_init_103 : decode cX5_init 103 = .ok (.if_icmp .ge 33, 3) := by decide +kernel
theorem dX5_init_106 : decode cX5_init 106 = .ok (.aload_n 0, 1) := by decide +kernel
theorem dX5_init_107 : decode cX5_init 107 = .ok (.getfield 45, 3) := by decide +kernel
theorem dX5_init_110 : decode cX5_init 110 = .ok (.new 56, 3) := by decide +kernel
theorem dX5_init_113 : decode cX5_init 113 = .ok (.dup, 1) := by decide +kernel
theorem dX5_init_114 : decode cX5_init 114 = .ok (.iload_n 1, 1) := by decide +kernel
theorem dX5_init_115 : decode cX5_init 115 = .ok (.ifCond .ne 7, 3) := by decide +kernel
theorem dX5_init_118 : decode cX5_init 118 = .ok (.iconst 1, 1) := by decide +kernel
theorem dX5_init_119 : decode cX5_init 119 = .ok (.goto 4, 3) := by decide +kernel
theorem dX5_init_122 : decode cX5_init 122 = .ok (.iconst 0, 1) := by decide +kernel
theorem dX5_init_123 : decode cX5_init 123 = .ok (.invokespecial 58, 3) := by decide +kernel
theorem dX5_init_126 : decode cX5_init 126 = .ok (.invokevirtual 61, 3) := by decide +kernel
theorem dX5_init_129 : decode cX5_init 129 = .ok (.pop, 1) := by decide +kernel
theorem dX5_init_130 : decode cX5_init 130 = .ok (.iinc 1 1, 3) := by decide +kernel
theorem dX5_init_133 : decode cX5_init 133 = .ok (.goto (-32), 3) := by decide +kernel
theorem dX5_init_136 : decode cX5_init 136 = .ok (.aload_n 0, 1) := by decide +kernel
theorem dX5_init_137 : decode cX5_init 137 = .ok (.getfield 48, 3) := by decide +kernel
theorem dX5_init_140 : decode cX5_init 140 = .ok (.bipush 100, 2) := by decide +kernel
theorem dX5_init_142 : decode cX5_init 142 = .ok (.invokestatic 65, 3) := by decide +kernel
theorem dX5_init_145 : decode cX5_init 145 = .ok (.return_, 1) := by decide +kernel
theorem dX5_pass_0 : decode cX5_pass 0 = .ok (.iload_n 1, 1) := by decide +kernel
theorem dX5_pass_1 : decode cX5_pass 1 = .ok (.iconst 1, 1) := by decide +kernel
theorem dX5_pass_2 : decode cX5_pass 2 = .ok (.sipush 1000, 3) := by decide +kernel
theorem dX5_pass_5 : decode cX5_pass 5 = .ok (.invokestatic 71, 3) := by decide +kernel
theorem dX5_pass_8 : decode cX5_pass 8 = .ok (.aload_n 0, 1) := by decide +kernel
theorem dX5_pass_9 : decode cX5_pass 9 = .ok (.getfield 74, 3) := by decide +kernel
theorem dX5_pass_12 : decode cX5_pass 12 = .ok (.iload_n 1, 1) := by decide +kernel
theorem dX5_pass_13 : decode cX5_pass 13 = .ok (.iadd, 1) := by decide +kernel
theorem dX5_pass_14 : decode cX5_pass 14 = .ok (.sipush 9999, 3) := by decide +kernel
theorem dX5_pass_17 : decode cX5_pass 17 = .ok (.if_icmp .le 13, 3) := by decide +kernel
theorem dX5_pass_20 : decode cX5_pass 20 = .ok (.new 78, 3) := by decide +kernel
theorem dX5_pass_23 : decode cX5_pass 23 = .ok (.dup, 1) := by decide +kernel
theorem dX5_pass_24 : decode cX5_pass 24 = .ok (.ldc 80, 2) := by decide +kernel
theorem dX5_pass_26 : decode cX5_pass 26 = .ok (.invokespecial 82, 3) := by decide +kernel
theorem dX5_pass_29 : decode cX5_pass 29 = .ok (.athrow, 1) := by decide +kernel
theorem dX5_pass_30 : decode cX5_pass 30 = .ok (.aload_n 0, 1) := by decide +kernel
theorem dX5_pass_31 : decode cX5_pass 31 = .ok (.dup, 1) := by decide +kernel
theorem dX5_pass_32 : decode cX5_pass 32 = .ok (.getfield 74, 3) := by decide +kernel
theorem dX5_pass_35 : decode cX5_pass 35 = .ok (.iload_n 1, 1) := by decide +kernel
theorem dX5_pass_36 : decode cX5_pass 36 = .ok (.iadd, 1) := by decide +kernel
theorem dX5_pass_37 : decode cX5_pass 37 = .ok (.putfield 74, 3) := by decide +kernel
theorem dX5_pass_40 : decode cX5_pass 40 = .ok (.aload_n 0, 1) := by decide +kernel
theorem dX5_pass_41 : decode cX5_pass 41 = .ok (.getfield 74, 3) := by decide +kernel
theorem dX5_pass_44 : decode cX5_pass 44 = .ok (.ireturn, 1) := by decide +kernel
theorem dX5_format_0 : decode cX5_format 0 = .ok (.iload_n 1, 1) := by decide +kernel
theorem dX5_format_1 : decode cX5_format 1 = .ok (.iconst 0, 1) := by decide +kernel
theorem dX5_format_2 : decode cX5_format 2 = .ok (.sipush 9999, 3) := by decide +kernel
theorem dX5_format_5 : decode cX5_format 5 = .ok (.invokestatic 71, 3) := by decide +kernel
theorem dX5_format_8 : decode cX5_format 8 = .ok (.iload_n 2, 1) := by decide +kernel
theorem dX5_format_9 : decode cX5_format 9 = .ok (.iconst 0, 1) := by decide +kernel
theorem dX5_format_10 : decode cX5_format 10 = .ok (.bipush 7, 2) := by decide +kernel
theorem dX5_format_12 : decode cX5_format 12 = .ok (.invokestatic 71, 3) := by decide +kernel
theorem dX5_format_15 : decode cX5_format 15 = .ok (.iload_n 3, 1) := by decide +kernel
theorem dX5_format_16 : decode cX5_format 16 = .ok (.iconst 0, 1) := by decide +kernel
theorem dX5_format_17 : decode cX5_format 17 = .ok (.bipush 7, 2) := by decide +kernel
theorem dX5_format_19 : decode cX5_format 19 = .ok (.invokestatic 71, 3) := by decide +kernel
theorem dX5_format_22 : decode cX5_format 22 = .ok (.aload_n 0, 1) := by decide +kernel
theorem dX5_format_23 : decode cX5_format 23 = .ok (.getfield 21, 3) := by decide +kernel
theorem dX5_format_26 : decode cX5_format 26 = .ok (.invokevirtual 85, 3) := by decide +kernel
theorem dX5_format_29 : decode cX5_format 29 = .ok (.bipush 10, 2) := by decide +kernel
theorem dX5_format_31 : decode cX5_format 31 = .ok (.if_icmp .lt 13, 3) := by decide +kernel
theorem dX5_format_34 : decode cX5_format 34 = .ok (.new 78, 3) := by decide +kernel
theorem dX5_format_37 : decode cX5_format 37 = .ok (.dup, 1) := by decide +kernel
theorem dX5_format_38 : decode cX5_format 38 = .ok (.ldc 89, 2) := by decide +kernel
theorem dX5_format_40 : decode cX5_format 40 = .ok (.invokespecial 82, 3) := by decide +kernel
theorem dX5_format_43 : decode cX5_format 43 = .ok (.athrow, 1) := by decide +kernel
theorem dX5_format_44 : decode cX5_format 44 = .ok (.aload_n 0, 1) := by decide +kernel
theorem dX5_format_45 : decode cX5_format 45 = .ok (.getfield 21, 3) := by decide +kernel
theorem dX5_format_48 : decode cX5_format 48 = .ok (.new 9, 3) := by decide +kernel
theorem dX5_format_51 : decode cX5_format 51 = .ok (.dup, 1) := by decide +kernel
theorem dX5_format_52 : decode cX5_format 52 = .ok (.iload_n 1, 1) := by decide +kernel
theorem dX5_format_53 : decode cX5_format 53 = .ok (.iload_n 2, 1) := by decide +kernel
theorem dX5_format_54 : decode cX5_format 54 = .ok (.iload_n 3, 1) := by decide +kernel
theorem dX5_format_55 : decode cX5_format 55 = .ok (.invokespecial 11, 3) := by decide +kernel
theorem dX5_format_58 : decode cX5_format 58 = .ok (.invokevirtual 61, 3) := by decide +kernel
theorem dX5_format_61 : decode cX5_format 61 = .ok (.pop, 1) := by decide +kernel
theorem dX5_format_62 : decode cX5_format 62 = .ok (.aload_n 0, 1) := by decide +kernel
theorem dX5_format_63 : decode cX5_format 63 = .ok (.getfield 21, 3) := by decide +kernel
theorem dX5_format_66 : decode cX5_format 66 = .ok (.invokevirtual 85, 3) := by decide +kernel
theorem dX5_format_69 : decode cX5_format 69 = .ok (.ireturn, 1) := by decide +kernel
theorem dX5_line_0 : decode cX5_line 0 = .ok (.iload_n 1, 1) := by decide +kernel
theorem dX5_line_1 : decode cX5_line 1 = .ok (.iconst 0, 1) := by decide +kernel
theorem dX5_line_2 : decode cX5_line 2 = .ok (.bipush 99, 2) := by decide +kernel
theorem dX5_line_4 : decode cX5_line 4 = .ok (.invokestatic 71, 3) := by decide +kernel
theorem dX5_line_7 : decode cX5_line 7 = .ok (.aload_n 0, 1) := by decide +kernel
theorem dX5_line_8 : decode cX5_line 8 = .ok (.getfield 38, 3) := by decide +kernel
theorem dX5_line_11 : decode cX5_line 11 = .ok (.iload_n 1, 1) := by decide +kernel
theorem dX5_line_12 : decode cX5_line 12 = .ok (.invokevirtual 91, 3) := by decide +kernel
theorem dX5_line_15 : decode cX5_line 15 = .ok (.ifCond .ne 13, 3) := by decide +kernel
theorem dX5_line_18 : decode cX5_line 18 = .ok (.new 78, 3) := by decide +kernel
theorem dX5_line_21 : decode cX5_line 21 = .ok (.dup, 1) := by decide +kernel
theorem dX5_line_22 : decode cX5_line 22 = .ok (.ldc 95, 2) := by decide +kernel
theorem dX5_line_24 : decode cX5_line 24 = .ok (.invokespecial 82, 3) := by decide +kernel
theorem dX5_line_27 : decode cX5_line 27 = .ok (.athrow, 1) := by decide +kernel
theorem dX5_line_28 : decode cX5_line 28 = .ok (.aload_n 0, 1) := by decide +kernel
theorem dX5_line_29 : decode cX5_line 29 = .ok (.getfield 38, 3) := by decide +kernel
theorem dX5_line_32 : decode cX5_line 32 = .ok (.getfield 97, 3) := by decide +kernel
theorem dX5_line_35 : decode cX5_line 35 = .ok (.ireturn, 1) := by decide +kernel
theorem dX5_feed_0 : decode cX5_feed 0 = .ok (.aload_n 0, 1) := by decide +kernel
theorem dX5_feed_1 : decode cX5_feed 1 = .ok (.getfield 100, 3) := by decide +kernel
theorem dX5_feed_4 : decode cX5_feed 4 = .ok (.aload_n 0, 1) := by decide +kernel
theorem dX5_feed_5 : decode cX5_feed 5 = .ok (.getfield 31, 3) := by decide +kernel
theorem dX5_feed_8 : decode cX5_feed 8 = .ok (.getfield 103, 3) := by decide +kernel
theorem dX5_feed_11 : decode cX5_feed 11 = .ok (.invokevirtual 85, 3) := by decide +kernel
theorem dX5_feed_14 : decode cX5_feed 14 = .ok (.iadd, 1) := by decide +kernel
theorem dX5_feed_15 : decode cX5_feed 15 = .ok (.iconst 1, 1) := by decide +kernel
theorem dX5_feed_16 : decode cX5_feed 16 = .ok (.iadd, 1) := by decide +kernel
theorem dX5_feed_17 : decode cX5_feed 17 = .ok (.bipush 120, 2) := by decide +kernel
theorem dX5_feed_19 : decode cX5_feed 19 = .ok (.if_icmp .le 13, 3) := by decide +kernel
theorem dX5_feed_22 : decode cX5_feed 22 = .ok (.new 78, 3) := by decide +kernel
theorem dX5_feed_25 : decode cX5_feed 25 = .ok (.dup, 1) := by decide +kernel
theorem dX5_feed_26 : decode cX5_feed 26 = .ok (.ldc 106, 2) := by decide +kernel
theorem dX5_feed_28 : decode cX5_feed 28 = .ok (.invokespecial 82, 3) := by decide +kernel
theorem dX5_feed_31 : decode cX5_feed 31 = .ok (.athrow, 1) := by decide +kernel
theorem dX5_feed_32 : decode cX5_feed 32 = .ok (.aload_n 0, 1) := by decide +kernel
theorem dX5_feed_33 : decode cX5_feed 33 = .ok (.invokevirtual 108, 3) := by decide +kernel
theorem dX5_feed_36 : decode cX5_feed 36 = .ok (.aload_n 0, 1) := by decide +kernel
theorem dX5_feed_37 : decode cX5_feed 37 = .ok (.getfield 31, 3) := by decide +kernel
theorem dX5_feed_40 : decode cX5_feed 40 = .ok (.getfield 103, 3) := by decide +kernel
theorem dX5_feed_43 : decode cX5_feed 43 = .ok (.invokevirtual 85, 3) := by decide +kernel
theorem dX5_feed_46 : decode cX5_feed 46 = .ok (.ireturn, 1) := by decide +kernel
theorem dX5_end_0 : decode cX5_end 0 = .ok (.aload_n 0, 1) := by decide +kernel
theorem dX5_end_1 : decode cX5_end 1 = .ok (.getfield 31, 3) := by decide +kernel
theorem dX5_end_4 : decode cX5_end 4 = .ok (.getfield 103, 3) := by decide +kernel
theorem dX5_end_7 : decode cX5_end 7 = .ok (.invokevirtual 85, 3) := by decide +kernel
theorem dX5_end_10 : decode cX5_end 10 = .ok (.aload_n 0, 1) := by decide +kernel
theorem dX5_end_11 : decode cX5_end 11 = .ok (.getfield 38, 3) := by decide +kernel
theorem dX5_end_14 : decode cX5_end 14 = .ok (.invokevirtual 111, 3) := by decide +kernel
theorem dX5_end_17 : decode cX5_end 17 = .ok (.ifCond .eq 7, 3) := by decide +kernel
theorem dX5_end_20 : decode cX5_end 20 = .ok (.iconst 0, 1) := by decide +kernel
theorem dX5_end_21 : decode cX5_end 21 = .ok (.goto 4, 3) := by decide +kernel
theorem dX5_end_24 : decode cX5_end 24 = .ok (.iconst 1, 1) := by decide +kernel
theorem dX5_end_25 : decode cX5_end 25 = .ok (.iadd, 1) := by decide +kernel
theorem dX5_end_26 : decode cX5_end 26 = .ok (.istore_n 1, 1) := by decide +kernel
theorem dX5_end_27 : decode cX5_end 27 = .ok (.iload_n 1, 1) := by decide +kernel
theorem dX5_end_28 : decode cX5_end 28 = .ok (.ifCond .ne 13, 3) := by decide +kernel
theorem dX5_end_31 : decode cX5_end 31 = .ok (.new 78, 3) := by decide +kernel
theorem dX5_end_34 : decode cX5_end 34 = .ok (.dup, 1) := by decide +kernel
theorem dX5_end_35 : decode cX5_end 35 = .ok (.ldc 115, 2) := by decide +kernel
theorem dX5_end_37 : decode cX5_end 37 = .ok (.invokespecial 82, 3) := by decide +kernel
theorem dX5_end_40 : decode cX5_end 40 = .ok (.athrow, 1) := by decide +kernel
theorem dX5_end_41 : decode cX5_end 41 = .ok (.aload_n 0, 1) := by decide +kernel
theorem dX5_end_42 : decode cX5_end 42 = .ok (.getfield 25, 3) := by decide +kernel
theorem dX5_end_45 : decode cX5_end 45 = .ok (.invokevirtual 85, 3) := by decide +kernel
theorem dX5_end_48 : decode cX5_end 48 = .ok (.bipush 15, 2) := by decide +kernel
theorem dX5_end_50 : decode cX5_end 50 = .ok (.if_icmp .lt 13, 3) := by decide +kernel
theorem dX5_end_53 : decode cX5_end 53 = .ok (.new 78, 3) := by decide +kernel
theorem dX5_end_56 : decode cX5_end 56 = .ok (.dup, 1) := by decide +kernel
theorem dX5_end_57 : decode cX5_end 57 = .ok (.ldc 117, 2) := by decide +kernel
theorem dX5_end_59 : decode cX5_end 59 = .ok (.invokespecial 82, 3) := by decide +kernel
theorem dX5_end_62 : decode cX5_end 62 = .ok (.athrow, 1) := by decide +kernel
theorem dX5_end_63 : decode cX5_end 63 = .ok (.aload_n 0, 1) := by decide +kernel
theorem dX5_end_64 : decode cX5_end 64 = .ok (.getfield 100, 3) := by decide +kernel
theorem dX5_end_67 : decode cX5_end 67 = .ok (.iload_n 1, 1) := by decide +kernel
theorem dX5_end_68 : decode cX5_end 68 = .ok (.iadd, 1) := by decide +kernel
theorem dX5_end_69 : decode cX5_end 69 = .ok (.bipush 120, 2) := by decide +kernel
theorem dX5_end_71 : decode cX5_end 71 = .ok (.if_icmp .le 13, 3) := by decide +kernel
theorem dX5_end_74 : decode cX5_end 74 = .ok (.new 78, 3) := by decide +kernel
theorem dX5_end_77 : decode cX5_end 77 = .ok (.dup, 1) := by decide +kernel
theorem dX5_end_78 : decode cX5_end 78 = .ok (.ldc 106, 2) := by decide +kernel
theorem dX5_end_80 : decode cX5_end 80 = .ok (.invokespecial 82, 3) := by decide +kernel
theorem dX5_end_83 : decode cX5_end 83 = .ok (.athrow, 1) := by decide +kernel
theorem dX5_end_84 : decode cX5_end 84 = .ok (.aload_n 0, 1) := by decide +kernel
theorem dX5_end_85 : decode cX5_end 85 = .ok (.getfield 38, 3) := by decide +kernel
theorem dX5_end_88 : decode cX5_end 88 = .ok (.invokevirtual 111, 3) := by decide +kernel
theorem dX5_end_91 : decode cX5_end 91 = .ok (.ifCond .ne 7, 3) := by decide +kernel
theorem dX5_end_94 : decode cX5_end 94 = .ok (.aload_n 0, 1) := by decide +kernel
theorem dX5_end_95 : decode cX5_end 95 = .ok (.invokevirtual 108, 3) := by decide +kernel
theorem dX5_end_98 : decode cX5_end 98 = .ok (.aload_n 0, 1) := by decide +kernel
theorem dX5_end_99 : decode cX5_end 99 = .ok (.invokevirtual 119, 3) := by decide +kernel
theorem dX5_end_102 : decode cX5_end 102 = .ok (.aload_n 0, 1) := by decide +kernel
theorem dX5_end_103 : decode cX5_end 103 = .ok (.getfield 25, 3) := by decide +kernel
theorem dX5_end_106 : decode cX5_end 106 = .ok (.invokevirtual 85, 3) := by decide +kernel
theorem dX5_end_109 : decode cX5_end 109 = .ok (.iconst 1, 1) := by decide +kernel
theorem dX5_end_110 : decode cX5_end 110 = .ok (.isub, 1) := by decide +kernel
theorem dX5_end_111 : decode cX5_end 111 = .ok (.ireturn, 1) := by decide +kernel
theorem dX5_pages_0 : decode cX5_pages 0 = .ok (.aload_n 0, 1) := by decide +kernel
theorem dX5_pages_1 : decode cX5_pages 1 = .ok (.iload_n 1, 1) := by decide +kernel
theorem dX5_pages_2 : decode cX5_pages 2 = .ok (.invokevirtual 122, 3) := by decide +kernel
theorem dX5_pages_5 : decode cX5_pages 5 = .ok (.getfield 103, 3) := by decide +kernel
theorem dX5_pages_8 : decode cX5_pages 8 = .ok (.invokevirtual 85, 3) := by decide +kernel
theorem dX5_pages_11 : decode cX5_pages 11 = .ok (.ireturn, 1) := by decide +kernel
theorem dX5_twice_0 : decode cX5_twice 0 = .ok (.aload_n 0, 1) := by decide +kernel
theorem dX5_twice_1 : decode cX5_twice 1 = .ok (.iload_n 1, 1) := by decide +kernel
theorem dX5_twice_2 : decode cX5_twice 2 = .ok (.invokevirtual 122, 3) := by decide +kernel
theorem dX5_twice_5 : decode cX5_twice 5 = .ok (.astore_n 2, 1) := by decide +kernel
theorem dX5_twice_6 : decode cX5_twice 6 = .ok (.iconst 0, 1) := by decide +kernel
theorem dX5_twice_7 : decode cX5_twice 7 = .ok (.istore_n 3, 1) := by decide +kernel
theorem dX5_twice_8 : decode cX5_twice 8 = .ok (.iload_n 3, 1) := by decide +kernel
theorem dX5_twice_9 : decode cX5_twice 9 = .ok (.iload_n 1, 1) := by decide +kernel
theorem dX5_twice_10 : decode cX5_twice 10 = .ok (.if_icmp .ge 40, 3) := by decide +kernel
theorem dX5_twice_13 : decode cX5_twice 13 = .ok (.iload_n 3, 1) := by decide +kernel
theorem dX5_twice_14 : decode cX5_twice 14 = .ok (.aload_n 0, 1) := by decide +kernel
theorem dX5_twice_15 : decode cX5_twice 15 = .ok (.getfield 25, 3) := by decide +kernel
theorem dX5_twice_18 : decode cX5_twice 18 = .ok (.invokevirtual 85, 3) := by decide +kernel
theorem dX5_twice_21 : decode cX5_twice 21 = .ok (.if_icmp .ge 29, 3) := by decide +kernel
theorem dX5_twice_24 : decode cX5_twice 24 = .ok (.aload_n 2, 1) := by decide +kernel
theorem dX5_twice_25 : decode cX5_twice 25 = .ok (.aload_n 0, 1) := by decide +kernel
theorem dX5_twice_26 : decode cX5_twice 26 = .ok (.getfield 25, 3) := by decide +kernel
theorem dX5_twice_29 : decode cX5_twice 29 = .ok (.iload_n 3, 1) := by decide +kernel
theorem dX5_twice_30 : decode cX5_twice 30 = .ok (.invokevirtual 126, 3) := by decide +kernel
theorem dX5_twice_33 : decode cX5_twice 33 = .ok (.checkcast 28, 3) := by decide +kernel
theorem dX5_twice_36 : decode cX5_twice 36 = .ok (.invokevirtual 130, 3) := by decide +kernel
theorem dX5_twice_39 : decode cX5_twice 39 = .ok (.ifCond .eq 5, 3) := by decide +kernel
theorem dX5_twice_42 : decode cX5_twice 42 = .ok (.iload_n 3, 1) := by decide +kernel
theorem dX5_twice_43 : decode cX5_twice 43 = .ok (.ireturn, 1) := by decide +kernel
theorem dX5_twice_44 : decode cX5_twice 44 = .ok (.iinc 3 1, 3) := by decide +kernel
theorem dX5_twice_47 : decode cX5_twice 47 = .ok (.goto (-39), 3) := by decide +kernel
theorem dX5_twice_50 : decode cX5_twice 50 = .ok (.iconst (-1), 1) := by decide +kernel
theorem dX5_twice_51 : decode cX5_twice 51 = .ok (.ireturn, 1) := by decide +kernel
theorem dX5_reprint_0 : decode cX5_reprint 0 = .ok (.aload_n 0, 1) := by decide +kernel
theorem dX5_reprint_1 : decode cX5_reprint 1 = .ok (.iload_n 1, 1) := by decide +kernel
theorem dX5_reprint_2 : decode cX5_reprint 2 = .ok (.invokevirtual 122, 3) := by decide +kernel
theorem dX5_reprint_5 : decode cX5_reprint 5 = .ok (.astore 4, 2) := by decide +kernel
theorem dX5_reprint_7 : decode cX5_reprint 7 = .ok (.aload 4, 2) := by decide +kernel
theorem dX5_reprint_9 : decode cX5_reprint 9 = .ok (.iload_n 2, 1) := by decide +kernel
theorem dX5_reprint_10 : decode cX5_reprint 10 = .ok (.invokestatic 134, 3) := by decide +kernel
theorem dX5_reprint_13 : decode cX5_reprint 13 = .ok (.iload_n 3, 1) := by decide +kernel
theorem dX5_reprint_14 : decode cX5_reprint 14 = .ok (.iconst 1, 1) := by decide +kernel
theorem dX5_reprint_15 : decode cX5_reprint 15 = .ok (.bipush 9, 2) := by decide +kernel
theorem dX5_reprint_17 : decode cX5_reprint 17 = .ok (.invokestatic 71, 3) := by decide +kernel
theorem dX5_reprint_20 : decode cX5_reprint 20 = .ok (.iconst 0, 1) := by decide +kernel
theorem dX5_reprint_21 : decode cX5_reprint 21 = .ok (.istore 5, 2) := by decide +kernel
theorem dX5_reprint_23 : decode cX5_reprint 23 = .ok (.iload_n 2, 1) := by decide +kernel
theorem dX5_reprint_24 : decode cX5_reprint 24 = .ok (.istore 6, 2) := by decide +kernel
theorem dX5_reprint_26 : decode cX5_reprint 26 = .ok (.iload 6, 2) := by decide +kernel
theorem dX5_reprint_28 : decode cX5_reprint 28 = .ok (.aload 4, 2) := by decide +kernel
theorem dX5_reprint_30 : decode cX5_reprint 30 = .ok (.getfield 103, 3) := by decide +kernel
theorem dX5_reprint_33 : decode cX5_reprint 33 = .ok (.invokevirtual 85, 3) := by decide +kernel
theorem dX5_reprint_36 : decode cX5_reprint 36 = .ok (.if_icmp .ge 37, 3) := by decide +kernel
theorem dX5_reprint_39 : decode cX5_reprint 39 = .ok (.aload 4, 2) := by decide +kernel
theorem dX5_reprint_41 : decode cX5_reprint 41 = .ok (.getfield 103, 3) := by decide +kernel
theorem dX5_reprint_44 : decode cX5_reprint 44 = .ok (.iload 6, 2) := by decide +kernel
theorem dX5_reprint_46 : decode cX5_reprint 46 = .ok (.invokevirtual 126, 3) := by decide +kernel
theorem dX5_reprint_49 : decode cX5_reprint 49 = .ok (.checkcast 35, 3) := by decide +kernel
theorem dX5_reprint_52 : decode cX5_reprint 52 = .ok (.dup, 1) := by decide +kernel
theorem dX5_reprint_53 : decode cX5_reprint 53 = .ok (.getfield 138, 3) := by decide +kernel
theorem dX5_reprint_56 : decode cX5_reprint 56 = .ok (.iload_n 3, 1) := by decide +kernel
theorem dX5_reprint_57 : decode cX5_reprint 57 = .ok (.iadd, 1) := by decide +kernel
theorem dX5_reprint_58 : decode cX5_reprint 58 = .ok (.putfield 138, 3) := by decide +kernel
theorem dX5_reprint_61 : decode cX5_reprint 61 = .ok (.iload 5, 2) := by decide +kernel
theorem dX5_reprint_63 : decode cX5_reprint 63 = .ok (.iload_n 3, 1) := by decide +kernel
theorem dX5_reprint_64 : decode cX5_reprint 64 = .ok (.iadd, 1) := by decide +kernel
theorem dX5_reprint_65 : decode cX5_reprint 65 = .ok (.istore 5, 2) := by decide +kernel
theorem dX5_reprint_67 : decode cX5_reprint 67 = .ok (.iinc 6 1, 3) := by decide +kernel
theorem dX5_reprint_70 : decode cX5_reprint 70 = .ok (.goto (-44), 3) := by decide +kernel
theorem dX5_reprint_73 : decode cX5_reprint 73 = .ok (.iload 5, 2) := by decide +kernel
theorem dX5_reprint_75 : decode cX5_reprint 75 = .ok (.ireturn, 1) := by decide +kernel
theorem dX5_copies_0 : decode cX5_copies 0 = .ok (.aload_n 0, 1) := by decide +kernel
theorem dX5_copies_1 : decode cX5_copies 1 = .ok (.iload_n 1, 1) := by decide +kernel
theorem dX5_copies_2 : decode cX5_copies 2 = .ok (.invokevirtual 122, 3) := by decide +kernel
theorem dX5_copies_5 : decode cX5_copies 5 = .ok (.iload_n 2, 1) := by decide +kernel
theorem dX5_copies_6 : decode cX5_copies 6 = .ok (.invokestatic 141, 3) := by decide +kernel
theorem dX5_copies_9 : decode cX5_copies 9 = .ok (.getfield 138, 3) := by decide +kernel
theorem dX5_copies_12 : decode cX5_copies 12 = .ok (.ireturn, 1) := by decide +kernel
theorem dX5_documents_0 : decode cX5_documents 0 = .ok (.aload_n 0, 1) := by decide +kernel
theorem dX5_documents_1 : decode cX5_documents 1 = .ok (.getfield 42, 3) := by decide +kernel
theorem dX5_documents_4 : decode cX5_documents 4 = .ok (.invokevirtual 85, 3) := by decide +kernel
theorem dX5_documents_7 : decode cX5_documents 7 = .ok (.ireturn, 1) := by decide +kernel
theorem dX5_isThere_0 : decode cX5_isThere 0 = .ok (.aload_n 0, 1) := by decide +kernel
theorem dX5_isThere_1 : decode cX5_isThere 1 = .ok (.iload_n 1, 1) := by decide +kernel
theorem dX5_isThere_2 : decode cX5_isThere 2 = .ok (.invokevirtual 145, 3) := by decide +kernel
theorem dX5_isThere_5 : decode cX5_isThere 5 = .ok (.getfield 149, 3) := by decide +kernel
theorem dX5_isThere_8 : decode cX5_isThere 8 = .ok (.ifCond .ne 7, 3) := by decide +kernel
theorem dX5_isThere_11 : decode cX5_isThere 11 = .ok (.iconst 1, 1) := by decide +kernel
theorem dX5_isThere_12 : decode cX5_isThere 12 = .ok (.goto 4, 3) := by decide +kernel
theorem dX5_isThere_15 : decode cX5_isThere 15 = .ok (.iconst 0, 1) := by decide +kernel
theorem dX5_isThere_16 : decode cX5_isThere 16 = .ok (.ireturn, 1) := by decide +kernel
theorem dX5_account_0 : decode cX5_account 0 = .ok (.aload_n 0, 1) := by decide +kernel
theorem dX5_account_1 : decode cX5_account 1 = .ok (.iload_n 1, 1) := by decide +kernel
theorem dX5_account_2 : decode cX5_account 2 = .ok (.invokevirtual 145, 3) := by decide +kernel
theorem dX5_account_5 : decode cX5_account 5 = .ok (.getfield 155, 3) := by decide +kernel
theorem dX5_account_8 : decode cX5_account 8 = .ok (.ireturn, 1) := by decide +kernel
theorem dX5_kind_0 : decode cX5_kind 0 = .ok (.aload_n 0, 1) := by decide +kernel
theorem dX5_kind_1 : decode cX5_kind 1 = .ok (.iload_n 1, 1) := by decide +kernel
theorem dX5_kind_2 : decode cX5_kind 2 = .ok (.invokevirtual 145, 3) := by decide +kernel
theorem dX5_kind_5 : decode cX5_kind 5 = .ok (.getfield 158, 3) := by decide +kernel
theorem dX5_kind_8 : decode cX5_kind 8 = .ok (.ireturn, 1) := by decide +kernel
theorem dX5_length_0 : decode cX5_length 0 = .ok (.aload_n 0, 1) := by decide +kernel
theorem dX5_length_1 : decode cX5_length 1 = .ok (.iload_n 1, 1) := by decide +kernel
theorem dX5_length_2 : decode cX5_length 2 = .ok (.invokevirtual 145, 3) := by decide +kernel
theorem dX5_length_5 : decode cX5_length 5 = .ok (.getfield 161, 3) := by decide +kernel
theorem dX5_length_8 : decode cX5_length 8 = .ok (.ireturn, 1) := by decide +kernel
theorem dX5_found_0 : decode cX5_found 0 = .ok (.aload_n 0, 1) := by decide +kernel
theorem dX5_found_1 : decode cX5_found 1 = .ok (.iload_n 1, 1) := by decide +kernel
theorem dX5_found_2 : decode cX5_found 2 = .ok (.invokevirtual 164, 3) := by decide +kernel
theorem dX5_found_5 : decode cX5_found 5 = .ok (.astore 6, 2) := by decide +kernel
theorem dX5_found_7 : decode cX5_found 7 = .ok (.iload_n 2, 1) := by decide +kernel
theorem dX5_found_8 : decode cX5_found 8 = .ok (.iconst (-1), 1) := by decide +kernel
theorem dX5_found_9 : decode cX5_found 9 = .ok (.bipush 99, 2) := by decide +kernel
theorem dX5_found_11 : decode cX5_found 11 = .ok (.invokestatic 71, 3) := by decide +kernel
theorem dX5_found_14 : decode cX5_found 14 = .ok (.iload_n 3, 1) := by decide +kernel
theorem dX5_found_15 : decode cX5_found 15 = .ok (.iconst (-1), 1) := by decide +kernel
theorem dX5_found_16 : decode cX5_found 16 = .ok (.iconst 3, 1) := by decide +kernel
theorem dX5_found_17 : decode cX5_found 17 = .ok (.invokestatic 71, 3) := by decide +kernel
theorem dX5_found_20 : decode cX5_found 20 = .ok (.iload 4, 2) := by decide +kernel
theorem dX5_found_22 : decode cX5_found 22 = .ok (.iconst 0, 1) := by decide +kernel
theorem dX5_found_23 : decode cX5_found 23 = .ok (.sipush 9999, 3) := by decide +kernel
theorem dX5_found_26 : decode cX5_found 26 = .ok (.invokestatic 71, 3) := by decide +kernel
theorem dX5_found_29 : decode cX5_found 29 = .ok (.iconst 0, 1) := by decide +kernel
theorem dX5_found_30 : decode cX5_found 30 = .ok (.istore 7, 2) := by decide +kernel
theorem dX5_found_32 : decode cX5_found 32 = .ok (.iconst 0, 1) := by decide +kernel
theorem dX5_found_33 : decode cX5_found 33 = .ok (.istore 8, 2) := by decide +kernel
theorem dX5_found_35 : decode cX5_found 35 = .ok (.iload 8, 2) := by decide +kernel
theorem dX5_found_37 : decode cX5_found 37 = .ok (.aload_n 0, 1) := by decide +kernel
theorem dX5_found_38 : decode cX5_found 38 = .ok (.getfield 42, 3) := by decide +kernel
theorem dX5_found_41 : decode cX5_found 41 = .ok (.invokevirtual 85, 3) := by decide +kernel
theorem dX5_found_44 : decode cX5_found 44 = .ok (.if_icmp .ge 58, 3) := by decide +kernel
theorem dX5_found_47 : decode cX5_found 47 = .ok (.aload_n 0, 1) := by decide +kernel
theorem dX5_found_48 : decode cX5_found 48 = .ok (.getfield 42, 3) := by decide +kernel
theorem dX5_found_51 : decode cX5_found 51 = .ok (.iload 8, 2) := by decide +kernel
theorem dX5_found_53 : decode cX5_found 53 = .ok (.invokevirtual 126, 3) := by decide +kernel
theorem dX5_found_56 : decode cX5_found 56 = .ok (.checkcast 150, 3) := by decide +kernel
theorem dX5_found_59 : decode cX5_found 59 = .ok (.astore 9, 2) := by decide +kernel
theorem dX5_found_61 : decode cX5_found 61 = .ok (.aload 6, 2) := by decide +kernel
theorem dX5_found_63 : decode cX5_found 63 = .ok (.aload 9, 2) := by decide +kernel
theorem dX5_found_65 : decode cX5_found 65 = .ok (.invokevirtual 168, 3) := by decide +kernel
theorem dX5_found_68 : decode cX5_found 68 = .ok (.ifCond .eq 28, 3) := by decide +kernel
theorem dX5_found_71 : decode cX5_found 71 = .ok (.aload 9, 2) := by decide +kernel
theorem dX5_found_73 : decode cX5_found 73 = .ok (.iload_n 2, 1) := by decide +kernel
theorem dX5_found_74 : decode cX5_found 74 = .ok (.iload_n 3, 1) := by decide +kernel
theorem dX5_found_75 : decode cX5_found 75 = .ok (.iload 4, 2) := by decide +kernel
theorem dX5_found_77 : decode cX5_found 77 = .ok (.invokevirtual 172, 3) := by decide +kernel
theorem dX5_found_80 : decode cX5_found 80 = .ok (.ifCond .eq 16, 3) := by decide +kernel
theorem dX5_found_83 : decode cX5_found 83 = .ok (.iload 7, 2) := by decide +kernel
theorem dX5_found_85 : decode cX5_found 85 = .ok (.iload 5, 2) := by decide +kernel
theorem dX5_found_87 : decode cX5_found 87 = .ok (.if_icmp .ne 6, 3) := by decide +kernel
theorem dX5_found_90 : decode cX5_found 90 = .ok (.iload 8, 2) := by decide +kernel
theorem dX5_found_92 : decode cX5_found 92 = .ok (.ireturn, 1) := by decide +kernel
theorem dX5_found_93 : decode cX5_found 93 = .ok (.iinc 7 1, 3) := by decide +kernel
theorem dX5_found_96 : decode cX5_found 96 = .ok (.iinc 8 1, 3) := by decide +kernel
theorem dX5_found_99 : decode cX5_found 99 = .ok (.goto (-64), 3) := by decide +kernel
theorem dX5_found_102 : decode cX5_found 102 = .ok (.new 176, 3) := by decide +kernel
theorem dX5_found_105 : decode cX5_found 105 = .ok (.dup, 1) := by decide +kernel
theorem dX5_found_106 : decode cX5_found 106 = .ok (.ldc 178, 2) := by decide +kernel
theorem dX5_found_108 : decode cX5_found 108 = .ok (.invokespecial 180, 3) := by decide +kernel
theorem dX5_found_111 : decode cX5_found 111 = .ok (.athrow, 1) := by decide +kernel
theorem dX5_read_0 : decode cX5_read 0 = .ok (.aload_n 0, 1) := by decide +kernel
theorem dX5_read_1 : decode cX5_read 1 = .ok (.iload_n 1, 1) := by decide +kernel
theorem dX5_read_2 : decode cX5_read 2 = .ok (.invokevirtual 164, 3) := by decide +kernel
theorem dX5_read_5 : decode cX5_read 5 = .ok (.astore 5, 2) := by decide +kernel
theorem dX5_read_7 : decode cX5_read 7 = .ok (.aload_n 0, 1) := by decide +kernel
theorem dX5_read_8 : decode cX5_read 8 = .ok (.iload_n 2, 1) := by decide +kernel
theorem dX5_read_9 : decode cX5_read 9 = .ok (.invokevirtual 145, 3) := by decide +kernel
theorem dX5_read_12 : decode cX5_read 12 = .ok (.astore 6, 2) := by decide +kernel
theorem dX5_read_14 : decode cX5_read 14 = .ok (.aload 6, 2) := by decide +kernel
theorem dX5_read_16 : decode cX5_read 16 = .ok (.iload_n 3, 1) := by decide +kernel
theorem dX5_read_17 : decode cX5_read 17 = .ok (.invokestatic 181, 3) := by decide +kernel
theorem dX5_read_20 : decode cX5_read 20 = .ok (.astore 7, 2) := by decide +kernel
theorem dX5_read_22 : decode cX5_read 22 = .ok (.aload 7, 2) := by decide +kernel
theorem dX5_read_24 : decode cX5_read 24 = .ok (.iload 4, 2) := by decide +kernel
theorem dX5_read_26 : decode cX5_read 26 = .ok (.invokevirtual 185, 3) := by decide +kernel
theorem dX5_read_29 : decode cX5_read 29 = .ok (.ifCond .ne 13, 3) := by decide +kernel
theorem dX5_read_32 : decode cX5_read 32 = .ok (.new 176, 3) := by decide +kernel
theorem dX5_read_35 : decode cX5_read 35 = .ok (.dup, 1) := by decide +kernel
theorem dX5_read_36 : decode cX5_read 36 = .ok (.ldc 188, 2) := by decide +kernel
theorem dX5_read_38 : decode cX5_read 38 = .ok (.invokespecial 180, 3) := by decide +kernel
theorem dX5_read_41 : decode cX5_read 41 = .ok (.athrow, 1) := by decide +kernel
theorem dX5_read_42 : decode cX5_read 42 = .ok (.aload 5, 2) := by decide +kernel
theorem dX5_read_44 : decode cX5_read 44 = .ok (.aload 6, 2) := by decide +kernel
theorem dX5_read_46 : decode cX5_read 46 = .ok (.invokevirtual 168, 3) := by decide +kernel
theorem dX5_read_49 : decode cX5_read 49 = .ok (.ifCond .ne 13, 3) := by decide +kernel
theorem dX5_read_52 : decode cX5_read 52 = .ok (.new 190, 3) := by decide +kernel
theorem dX5_read_55 : decode cX5_read 55 = .ok (.dup, 1) := by decide +kernel
theorem dX5_read_56 : decode cX5_read 56 = .ok (.ldc 192, 2) := by decide +kernel
theorem dX5_read_58 : decode cX5_read 58 = .ok (.invokespecial 194, 3) := by decide +kernel
theorem dX5_read_61 : decode cX5_read 61 = .ok (.athrow, 1) := by decide +kernel
theorem dX5_read_62 : decode cX5_read 62 = .ok (.iload 4, 2) := by decide +kernel
theorem dX5_read_64 : decode cX5_read 64 = .ok (.aload 5, 2) := by decide +kernel
theorem dX5_read_66 : decode cX5_read 66 = .ok (.getfield 195, 3) := by decide +kernel
theorem dX5_read_69 : decode cX5_read 69 = .ok (.if_icmp .ne 7, 3) := by decide +kernel
theorem dX5_read_72 : decode cX5_read 72 = .ok (.iconst (-1), 1) := by decide +kernel
theorem dX5_read_73 : decode cX5_read 73 = .ok (.goto 10, 3) := by decide +kernel
theorem dX5_read_76 : decode cX5_read 76 = .ok (.aload 7, 2) := by decide +kernel
theorem dX5_read_78 : decode cX5_read 78 = .ok (.iload 4, 2) := by decide +kernel
theorem dX5_read_80 : decode cX5_read 80 = .ok (.invokevirtual 198, 3) := by decide +kernel
theorem dX5_read_83 : decode cX5_read 83 = .ok (.ireturn, 1) := by decide +kernel
theorem dX5_view_0 : decode cX5_view 0 = .ok (.aload_n 0, 1) := by decide +kernel
theorem dX5_view_1 : decode cX5_view 1 = .ok (.iload_n 1, 1) := by decide +kernel
theorem dX5_view_2 : decode cX5_view 2 = .ok (.invokevirtual 164, 3) := by decide +kernel
theorem dX5_view_5 : decode cX5_view 5 = .ok (.astore 5, 2) := by decide +kernel
theorem dX5_view_7 : decode cX5_view 7 = .ok (.iload_n 2, 1) := by decide +kernel
theorem dX5_view_8 : decode cX5_view 8 = .ok (.iconst 0, 1) := by decide +kernel
theorem dX5_view_9 : decode cX5_view 9 = .ok (.bipush 99, 2) := by decide +kernel
theorem dX5_view_11 : decode cX5_view 11 = .ok (.invokestatic 71, 3) := by decide +kernel
theorem dX5_view_14 : decode cX5_view 14 = .ok (.iload_n 3, 1) := by decide +kernel
theorem dX5_view_15 : decode cX5_view 15 = .ok (.iload_n 2, 1) := by decide +kernel
theorem dX5_view_16 : decode cX5_view 16 = .ok (.bipush 99, 2) := by decide +kernel
theorem dX5_view_18 : decode cX5_view 18 = .ok (.invokestatic 71, 3) := by decide +kernel
theorem dX5_view_21 : decode cX5_view 21 = .ok (.iload 4, 2) := by decide +kernel
theorem dX5_view_23 : decode cX5_view 23 = .ok (.iconst (-1), 1) := by decide +kernel
theorem dX5_view_24 : decode cX5_view 24 = .ok (.bipush 7, 2) := by decide +kernel
theorem dX5_view_26 : decode cX5_view 26 = .ok (.invokestatic 71, 3) := by decide +kernel
theorem dX5_view_29 : decode cX5_view 29 = .ok (.aload 5, 2) := by decide +kernel
theorem dX5_view_31 : decode cX5_view 31 = .ok (.iload_n 2, 1) := by decide +kernel
theorem dX5_view_32 : decode cX5_view 32 = .ok (.putfield 202, 3) := by decide +kernel
theorem dX5_view_35 : decode cX5_view 35 = .ok (.aload 5, 2) := by decide +kernel
theorem dX5_view_37 : decode cX5_view 37 = .ok (.iload_n 3, 1) := by decide +kernel
theorem dX5_view_38 : decode cX5_view 38 = .ok (.putfield 205, 3) := by decide +kernel
theorem dX5_view_41 : decode cX5_view 41 = .ok (.aload 5, 2) := by decide +kernel
theorem dX5_view_43 : decode cX5_view 43 = .ok (.iload 4, 2) := by decide +kernel
theorem dX5_view_45 : decode cX5_view 45 = .ok (.putfield 195, 3) := by decide +kernel
theorem dX5_view_48 : decode cX5_view 48 = .ok (.return_, 1) := by decide +kernel
theorem dX5_span_0 : decode cX5_span 0 = .ok (.aload_n 0, 1) := by decide +kernel
theorem dX5_span_1 : decode cX5_span 1 = .ok (.iload_n 1, 1) := by decide +kernel
theorem dX5_span_2 : decode cX5_span 2 = .ok (.invokevirtual 208, 3) := by decide +kernel
theorem dX5_span_5 : decode cX5_span 5 = .ok (.ifCond .ne 13, 3) := by decide +kernel
theorem dX5_span_8 : decode cX5_span 8 = .ok (.new 211, 3) := by decide +kernel
theorem dX5_span_11 : decode cX5_span 11 = .ok (.dup, 1) := by decide +kernel
theorem dX5_span_12 : decode cX5_span 12 = .ok (.ldc 213, 2) := by decide +kernel
theorem dX5_span_14 : decode cX5_span 14 = .ok (.invokespecial 215, 3) := by decide +kernel
theorem dX5_span_17 : decode cX5_span 17 = .ok (.athrow, 1) := by decide +kernel
theorem dX5_span_18 : decode cX5_span 18 = .ok (.iload_n 2, 1) := by decide +kernel
theorem dX5_span_19 : decode cX5_span 19 = .ok (.iconst 0, 1) := by decide +kernel
theorem dX5_span_20 : decode cX5_span 20 = .ok (.sipush 9999, 3) := by decide +kernel
theorem dX5_span_23 : decode cX5_span 23 = .ok (.invokestatic 71, 3) := by decide +kernel
theorem dX5_span_26 : decode cX5_span 26 = .ok (.aload_n 0, 1) := by decide +kernel
theorem dX5_span_27 : decode cX5_span 27 = .ok (.getfield 48, 3) := by decide +kernel
theorem dX5_span_30 : decode cX5_span 30 = .ok (.iload_n 1, 1) := by decide +kernel
theorem dX5_span_31 : decode cX5_span 31 = .ok (.iaload, 1) := by decide +kernel
theorem dX5_span_32 : decode cX5_span 32 = .ok (.istore_n 3, 1) := by decide +kernel
theorem dX5_span_33 : decode cX5_span 33 = .ok (.aload_n 0, 1) := by decide +kernel
theorem dX5_span_34 : decode cX5_span 34 = .ok (.getfield 48, 3) := by decide +kernel
theorem dX5_span_37 : decode cX5_span 37 = .ok (.iload_n 1, 1) := by decide +kernel
theorem dX5_span_38 : decode cX5_span 38 = .ok (.iload_n 2, 1) := by decide +kernel
theorem dX5_span_39 : decode cX5_span 39 = .ok (.iastore, 1) := by decide +kernel
theorem dX5_span_40 : decode cX5_span 40 = .ok (.iload_n 3, 1) := by decide +kernel
theorem dX5_span_41 : decode cX5_span 41 = .ok (.ireturn, 1) := by decide +kernel
theorem dX5_hold_0 : decode cX5_hold 0 = .ok (.aload_n 0, 1) := by decide +kernel
theorem dX5_hold_1 : decode cX5_hold 1 = .ok (.iload_n 1, 1) := by decide +kernel
theorem dX5_hold_2 : decode cX5_hold 2 = .ok (.invokevirtual 216, 3) := by decide +kernel
theorem dX5_hold_5 : decode cX5_hold 5 = .ok (.ifCond .ne 13, 3) := by decide +kernel
theorem dX5_hold_8 : decode cX5_hold 8 = .ok (.new 211, 3) := by decide +kernel
theorem dX5_hold_11 : decode cX5_hold 11 = .ok (.dup, 1) := by decide +kernel
theorem dX5_hold_12 : decode cX5_hold 12 = .ok (.ldc 219, 2) := by decide +kernel
theorem dX5_hold_14 : decode cX5_hold 14 = .ok (.invokespecial 215, 3) := by decide +kernel
theorem dX5_hold_17 : decode cX5_hold 17 = .ok (.athrow, 1) := by decide +kernel
theorem dX5_hold_18 : decode cX5_hold 18 = .ok (.aload_n 0, 1) := by decide +kernel
theorem dX5_hold_19 : decode cX5_hold 19 = .ok (.getfield 52, 3) := by decide +kernel
theorem dX5_hold_22 : decode cX5_hold 22 = .ok (.iload_n 1, 1) := by decide +kernel
theorem dX5_hold_23 : decode cX5_hold 23 = .ok (.baload, 1) := by decide +kernel
theorem dX5_hold_24 : decode cX5_hold 24 = .ok (.istore_n 3, 1) := by decide +kernel
theorem dX5_hold_25 : decode cX5_hold 25 = .ok (.aload_n 0, 1) := by decide +kernel
theorem dX5_hold_26 : decode cX5_hold 26 = .ok (.getfield 52, 3) := by decide +kernel
theorem dX5_hold_29 : decode cX5_hold 29 = .ok (.iload_n 1, 1) := by decide +kernel
theorem dX5_hold_30 : decode cX5_hold 30 = .ok (.iload_n 2, 1) := by decide +kernel
theorem dX5_hold_31 : decode cX5_hold 31 = .ok (.bastore, 1) := by decide +kernel
theorem dX5_hold_32 : decode cX5_hold 32 = .ok (.iload_n 3, 1) := by decide +kernel
theorem dX5_hold_33 : decode cX5_hold 33 = .ok (.ireturn, 1) := by decide +kernel
theorem dX5_clear_0 : decode cX5_clear 0 = .ok (.iconst 0, 1) := by decide +kernel
theorem dX5_clear_1 : decode cX5_clear 1 = .ok (.istore_n 1, 1) := by decide +kernel
theorem dX5_clear_2 : decode cX5_clear 2 = .ok (.iconst 0, 1) := by decide +kernel
theorem dX5_clear_3 : decode cX5_clear 3 = .ok (.istore_n 2, 1) := by decide +kernel
theorem dX5_clear_4 : decode cX5_clear 4 = .ok (.iload_n 2, 1) := by decide +kernel
theorem dX5_clear_5 : decode cX5_clear 5 = .ok (.aload_n 0, 1) := by decide +kernel
theorem dX5_clear_6 : decode cX5_clear 6 = .ok (.getfield 42, 3) := by decide +kernel
theorem dX5_clear_9 : decode cX5_clear 9 = .ok (.invokevirtual 85, 3) := by decide +kernel
theorem dX5_clear_12 : decode cX5_clear 12 = .ok (.if_icmp .ge 52, 3) := by decide +kernel
theorem dX5_clear_15 : decode cX5_clear 15 = .ok (.aload_n 0, 1) := by decide +kernel
theorem dX5_clear_16 : decode cX5_clear 16 = .ok (.getfield 42, 3) := by decide +kernel
theorem dX5_clear_19 : decode cX5_clear 19 = .ok (.iload_n 2, 1) := by decide +kernel
theorem dX5_clear_20 : decode cX5_clear 20 = .ok (.invokevirtual 126, 3) := by decide +kernel
theorem dX5_clear_23 : decode cX5_clear 23 = .ok (.checkcast 150, 3) := by decide +kernel
theorem dX5_clear_26 : decode cX5_clear 26 = .ok (.astore_n 3, 1) := by decide +kernel
theorem dX5_clear_27 : decode cX5_clear 27 = .ok (.aload_n 3, 1) := by decide +kernel
theorem dX5_clear_28 : decode cX5_clear 28 = .ok (.getfield 149, 3) := by decide +kernel
theorem dX5_clear_31 : decode cX5_clear 31 = .ok (.ifCond .ne 27, 3) := by decide +kernel
theorem dX5_clear_34 : decode cX5_clear 34 = .ok (.aload_n 0, 1) := by decide +kernel
theorem dX5_clear_35 : decode cX5_clear 35 = .ok (.aload_n 3, 1) := by decide +kernel
theorem dX5_clear_36 : decode cX5_clear 36 = .ok (.invokevirtual 221, 3) := by decide +kernel
theorem dX5_clear_39 : decode cX5_clear 39 = .ok (.ifCond .eq 19, 3) := by decide +kernel
theorem dX5_clear_42 : decode cX5_clear 42 = .ok (.aload_n 0, 1) := by decide +kernel
theorem dX5_clear_43 : decode cX5_clear 43 = .ok (.aload_n 3, 1) := by decide +kernel
theorem dX5_clear_44 : decode cX5_clear 44 = .ok (.invokevirtual 224, 3) := by decide +kernel
theorem dX5_clear_47 : decode cX5_clear 47 = .ok (.ifCond .ne 11, 3) := by decide +kernel
theorem dX5_clear_50 : decode cX5_clear 50 = .ok (.aload_n 3, 1) := by decide +kernel
theorem dX5_clear_51 : decode cX5_clear 51 = .ok (.iconst 1, 1) := by decide +kernel
theorem dX5_clear_52 : decode cX5_clear 52 = .ok (.putfield 149, 3) := by decide +kernel
theorem dX5_clear_55 : decode cX5_clear 55 = .ok (.iinc 1 1, 3) := by decide +kernel
theorem dX5_clear_58 : decode cX5_clear 58 = .ok (.iinc 2 1, 3) := by decide +kernel
theorem dX5_clear_61 : decode cX5_clear 61 = .ok (.goto (-57), 3) := by decide +kernel
theorem dX5_clear_64 : decode cX5_clear 64 = .ok (.iload_n 1, 1) := by decide +kernel
theorem dX5_clear_65 : decode cX5_clear 65 = .ok (.ireturn, 1) := by decide +kernel
theorem dX5_bundle_0 : decode cX5_bundle 0 = .ok (.aload_n 0, 1) := by decide +kernel
theorem dX5_bundle_1 : decode cX5_bundle 1 = .ok (.iload_n 1, 1) := by decide +kernel
theorem dX5_bundle_2 : decode cX5_bundle 2 = .ok (.invokevirtual 164, 3) := by decide +kernel
theorem dX5_bundle_5 : decode cX5_bundle 5 = .ok (.astore_n 3, 1) := by decide +kernel
theorem dX5_bundle_6 : decode cX5_bundle 6 = .ok (.iload_n 2, 1) := by decide +kernel
theorem dX5_bundle_7 : decode cX5_bundle 7 = .ok (.iconst 0, 1) := by decide +kernel
theorem dX5_bundle_8 : decode cX5_bundle 8 = .ok (.bipush 99, 2) := by decide +kernel
theorem dX5_bundle_10 : decode cX5_bundle 10 = .ok (.invokestatic 71, 3) := by decide +kernel
theorem dX5_bundle_13 : decode cX5_bundle 13 = .ok (.iconst 0, 1) := by decide +kernel
theorem dX5_bundle_14 : decode cX5_bundle 14 = .ok (.istore 4, 2) := by decide +kernel
theorem dX5_bundle_16 : decode cX5_bundle 16 = .ok (.iconst 0, 1) := by decide +kernel
theorem dX5_bundle_17 : decode cX5_bundle 17 = .ok (.istore 5, 2) := by decide +kernel
theorem dX5_bundle_19 : decode cX5_bundle 19 = .ok (.iload 5, 2) := by decide +kernel
theorem dX5_bundle_21 : decode cX5_bundle 21 = .ok (.aload_n 0, 1) := by decide +kernel
theorem dX5_bundle_22 : decode cX5_bundle 22 = .ok (.getfield 42, 3) := by decide +kernel
theorem dX5_bundle_25 : decode cX5_bundle 25 = .ok (.invokevirtual 85, 3) := by decide +kernel
theorem dX5_bundle_28 : decode cX5_bundle 28 = .ok (.if_icmp .ge 51, 3) := by decide +kernel
theorem dX5_bundle_31 : decode cX5_bundle 31 = .ok (.aload_n 0, 1) := by decide +kernel
theorem dX5_bundle_32 : decode cX5_bundle 32 = .ok (.getfield 42, 3) := by decide +kernel
theorem dX5_bundle_35 : decode cX5_bundle 35 = .ok (.iload 5, 2) := by decide +kernel
theorem dX5_bundle_37 : decode cX5_bundle 37 = .ok (.invokevirtual 126, 3) := by decide +kernel
theorem dX5_bundle_40 : decode cX5_bundle 40 = .ok (.checkcast 150, 3) := by decide +kernel
theorem dX5_bundle_43 : decode cX5_bundle 43 = .ok (.astore 6, 2) := by decide +kernel
theorem dX5_bundle_45 : decode cX5_bundle 45 = .ok (.aload 6, 2) := by decide +kernel
theorem dX5_bundle_47 : decode cX5_bundle 47 = .ok (.getfield 155, 3) := by decide +kernel
theorem dX5_bundle_50 : decode cX5_bundle 50 = .ok (.iload_n 2, 1) := by decide +kernel
theorem dX5_bundle_51 : decode cX5_bundle 51 = .ok (.if_icmp .ne 22, 3) := by decide +kernel
theorem dX5_bundle_54 : decode cX5_bundle 54 = .ok (.aload_n 3, 1) := by decide +kernel
theorem dX5_bundle_55 : decode cX5_bundle 55 = .ok (.aload 6, 2) := by decide +kernel
theorem dX5_bundle_57 : decode cX5_bundle 57 = .ok (.invokevirtual 168, 3) := by decide +kernel
theorem dX5_bundle_60 : decode cX5_bundle 60 = .ok (.ifCond .eq 13, 3) := by decide +kernel
theorem dX5_bundle_63 : decode cX5_bundle 63 = .ok (.iload 4, 2) := by decide +kernel
theorem dX5_bundle_65 : decode cX5_bundle 65 = .ok (.aload 6, 2) := by decide +kernel
theorem dX5_bundle_67 : decode cX5_bundle 67 = .ok (.getfield 161, 3) := by decide +kernel
theorem dX5_bundle_70 : decode cX5_bundle 70 = .ok (.iadd, 1) := by decide +kernel
theorem dX5_bundle_71 : decode cX5_bundle 71 = .ok (.istore 4, 2) := by decide +kernel
theorem dX5_bundle_73 : decode cX5_bundle 73 = .ok (.iinc 5 1, 3) := by decide +kernel
theorem dX5_bundle_76 : decode cX5_bundle 76 = .ok (.goto (-57), 3) := by decide +kernel
theorem dX5_bundle_79 : decode cX5_bundle 79 = .ok (.iload 4, 2) := by decide +kernel
theorem dX5_bundle_81 : decode cX5_bundle 81 = .ok (.ireturn, 1) := by decide +kernel
theorem dX5_demandRange_0 : decode cX5_demandRange 0 = .ok (.iload_n 0, 1) := by decide +kernel
theorem dX5_demandRange_1 : decode cX5_demandRange 1 = .ok (.iload_n 1, 1) := by decide +kernel
theorem dX5_demandRange_2 : decode cX5_demandRange 2 = .ok (.if_icmp .lt 8, 3) := by decide +kernel
theorem dX5_demandRange_5 : decode cX5_demandRange 5 = .ok (.iload_n 0, 1) := by decide +kernel
theorem dX5_demandRange_6 : decode cX5_demandRange 6 = .ok (.iload_n 2, 1) := by decide +kernel
theorem dX5_demandRange_7 : decode cX5_demandRange 7 = .ok (.if_icmp .le 13, 3) := by decide +kernel
theorem dX5_demandRange_10 : decode cX5_demandRange 10 = .ok (.new 211, 3) := by decide +kernel
theorem dX5_demandRange_13 : decode cX5_demandRange 13 = .ok (.dup, 1) := by decide +kernel
theorem dX5_demandRange_14 : decode cX5_demandRange 14 = .ok (.ldc 227, 2) := by decide +kernel
theorem dX5_demandRange_16 : decode cX5_demandRange 16 = .ok (.invokespecial 215, 3) := by decide +kernel
theorem dX5_demandRange_19 : decode cX5_demandRange 19 = .ok (.athrow, 1) := by decide +kernel
theorem dX5_demandRange_20 : decode cX5_demandRange 20 = .ok (.return_, 1) := by decide +kernel
theorem dX5_demandPage_0 : decode cX5_demandPage 0 = .ok (.iload_n 1, 1) := by decide +kernel
theorem dX5_demandPage_1 : decode cX5_demandPage 1 = .ok (.ifCond .lt 14, 3) := by decide +kernel
theorem dX5_demandPage_4 : decode cX5_demandPage 4 = .ok (.iload_n 1, 1) := by decide +kernel
theorem dX5_demandPage_5 : decode cX5_demandPage 5 = .ok (.aload_n 0, 1) := by decide +kernel
theorem dX5_demandPage_6 : decode cX5_demandPage 6 = .ok (.getfield 103, 3) := by decide +kernel
theorem dX5_demandPage_9 : decode cX5_demandPage 9 = .ok (.invokevirtual 85, 3) := by decide +kernel
theorem dX5_demandPage_12 : decode cX5_demandPage 12 = .ok (.if_icmp .lt 13, 3) := by decide +kernel
theorem dX5_demandPage_15 : decode cX5_demandPage 15 = .ok (.new 176, 3) := by decide +kernel
theorem dX5_demandPage_18 : decode cX5_demandPage 18 = .ok (.dup, 1) := by decide +kernel
theorem dX5_demandPage_19 : decode cX5_demandPage 19 = .ok (.ldc 229, 2) := by decide +kernel
theorem dX5_demandPage_21 : decode cX5_demandPage 21 = .ok (.invokespecial 180, 3) := by decide +kernel
theorem dX5_demandPage_24 : decode cX5_demandPage 24 = .ok (.athrow, 1) := by decide +kernel
theorem dX5_demandPage_25 : decode cX5_demandPage 25 = .ok (.return_, 1) := by decide +kernel
theorem dX5_isKind_0 : decode cX5_isKind 0 = .ok (.iload_n 1, 1) := by decide +kernel
theorem dX5_isKind_1 : decode cX5_isKind 1 = .ok (.ifCond .lt 16, 3) := by decide +kernel
theorem dX5_isKind_4 : decode cX5_isKind 4 = .ok (.iload_n 1, 1) := by decide +kernel
theorem dX5_isKind_5 : decode cX5_isKind 5 = .ok (.aload_n 0, 1) := by decide +kernel
theorem dX5_isKind_6 : decode cX5_isKind 6 = .ok (.getfield 48, 3) := by decide +kernel
theorem dX5_isKind_9 : decode cX5_isKind 9 = .ok (.arraylength, 1) := by decide +kernel
theorem dX5_isKind_10 : decode cX5_isKind 10 = .ok (.if_icmp .ge 7, 3) := by decide +kernel
theorem dX5_isKind_13 : decode cX5_isKind 13 = .ok (.iconst 1, 1) := by decide +kernel
theorem dX5_isKind_14 : decode cX5_isKind 14 = .ok (.goto 4, 3) := by decide +kernel
theorem dX5_isKind_17 : decode cX5_isKind 17 = .ok (.iconst 0, 1) := by decide +kernel
theorem dX5_isKind_18 : decode cX5_isKind 18 = .ok (.ireturn, 1) := by decide +kernel
theorem dX5_isAccount_0 : decode cX5_isAccount 0 = .ok (.iload_n 1, 1) := by decide +kernel
theorem dX5_isAccount_1 : decode cX5_isAccount 1 = .ok (.ifCond .lt 16, 3) := by decide +kernel
theorem dX5_isAccount_4 : decode cX5_isAccount 4 = .ok (.iload_n 1, 1) := by decide +kernel
theorem dX5_isAccount_5 : decode cX5_isAccount 5 = .ok (.aload_n 0, 1) := by decide +kernel
theorem dX5_isAccount_6 : decode cX5_isAccount 6 = .ok (.getfield 52, 3) := by decide +kernel
theorem dX5_isAccount_9 : decode cX5_isAccount 9 = .ok (.arraylength, 1) := by decide +kernel
theorem dX5_isAccount_10 : decode cX5_isAccount 10 = .ok (.if_icmp .ge 7, 3) := by decide +kernel
theorem dX5_isAccount_13 : decode cX5_isAccount 13 = .ok (.iconst 1, 1) := by decide +kernel
theorem dX5_isAccount_14 : decode cX5_isAccount 14 = .ok (.goto 4, 3) := by decide +kernel
theorem dX5_isAccount_17 : decode cX5_isAccount 17 = .ok (.iconst 0, 1) := by decide +kernel
theorem dX5_isAccount_18 : decode cX5_isAccount 18 = .ok (.ireturn, 1) := by decide +kernel
theorem dX5_runAt_0 : decode cX5_runAt 0 = .ok (.iload_n 1, 1) := by decide +kernel
theorem dX5_runAt_1 : decode cX5_runAt 1 = .ok (.ifCond .lt 14, 3) := by decide +kernel
theorem dX5_runAt_4 : decode cX5_runAt 4 = .ok (.iload_n 1, 1) := by decide +kernel
theorem dX5_runAt_5 : decode cX5_runAt 5 = .ok (.aload_n 0, 1) := by decide +kernel
theorem dX5_runAt_6 : decode cX5_runAt 6 = .ok (.getfield 25, 3) := by decide +kernel
theorem dX5_runAt_9 : decode cX5_runAt 9 = .ok (.invokevirtual 85, 3) := by decide +kernel
theorem dX5_runAt_12 : decode cX5_runAt 12 = .ok (.if_icmp .lt 13, 3) := by decide +kernel
theorem dX5_runAt_15 : decode cX5_runAt 15 = .ok (.new 176, 3) := by decide +kernel
theorem dX5_runAt_18 : decode cX5_runAt 18 = .ok (.dup, 1) := by decide +kernel
theorem dX5_runAt_19 : decode cX5_runAt 19 = .ok (.ldc 231, 2) := by decide +kernel
theorem dX5_runAt_21 : decode cX5_runAt 21 = .ok (.invokespecial 180, 3) := by decide +kernel
theorem dX5_runAt_24 : decode cX5_runAt 24 = .ok (.athrow, 1) := by decide +kernel
theorem dX5_runAt_25 : decode cX5_runAt 25 = .ok (.aload_n 0, 1) := by decide +kernel
theorem dX5_runAt_26 : decode cX5_runAt 26 = .ok (.getfield 25, 3) := by decide +kernel
theorem dX5_runAt_29 : decode cX5_runAt 29 = .ok (.iload_n 1, 1) := by decide +kernel
theorem dX5_runAt_30 : decode cX5_runAt 30 = .ok (.invokevirtual 126, 3) := by decide +kernel
theorem dX5_runAt_33 : decode cX5_runAt 33 = .ok (.checkcast 28, 3) := by decide +kernel
theorem dX5_runAt_36 : decode cX5_runAt 36 = .ok (.areturn, 1) := by decide +kernel
theorem dX5_pageAt_0 : decode cX5_pageAt 0 = .ok (.aload_n 0, 1) := by decide +kernel
theorem dX5_pageAt_1 : decode cX5_pageAt 1 = .ok (.iload_n 1, 1) := by decide +kernel
theorem dX5_pageAt_2 : decode cX5_pageAt 2 = .ok (.invokestatic 134, 3) := by decide +kernel
theorem dX5_pageAt_5 : decode cX5_pageAt 5 = .ok (.aload_n 0, 1) := by decide +kernel
theorem dX5_pageAt_6 : decode cX5_pageAt 6 = .ok (.getfield 103, 3) := by decide +kernel
theorem dX5_pageAt_9 : decode cX5_pageAt 9 = .ok (.iload_n 1, 1) := by decide +kernel
theorem dX5_pageAt_10 : decode cX5_pageAt 10 = .ok (.invokevirtual 126, 3) := by decide +kernel
theorem dX5_pageAt_13 : decode cX5_pageAt 13 = .ok (.checkcast 35, 3) := by decide +kernel
theorem dX5_pageAt_16 : decode cX5_pageAt 16 = .ok (.areturn, 1) := by decide +kernel
theorem dX5_documentAt_0 : decode cX5_documentAt 0 = .ok (.iload_n 1, 1) := by decide +kernel
theorem dX5_documentAt_1 : decode cX5_documentAt 1 = .ok (.ifCond .lt 14, 3) := by decide +kernel
theorem dX5_documentAt_4 : decode cX5_documentAt 4 = .ok (.iload_n 1, 1) := by decide +kernel
theorem dX5_documentAt_5 : decode cX5_documentAt 5 = .ok (.aload_n 0, 1) := by decide +kernel
theorem dX5_documentAt_6 : decode cX5_documentAt 6 = .ok (.getfield 42, 3) := by decide +kernel
theorem dX5_documentAt_9 : decode cX5_documentAt 9 = .ok (.invokevirtual 85, 3) := by decide +kernel
theorem dX5_documentAt_12 : decode cX5_documentAt 12 = .ok (.if_icmp .lt 13, 3) := by decide +kernel
theorem dX5_documentAt_15 : decode cX5_documentAt 15 = .ok (.new 176, 3) := by decide +kernel
theorem dX5_documentAt_18 : decode cX5_documentAt 18 = .ok (.dup, 1) := by decide +kernel
theorem dX5_documentAt_19 : decode cX5_documentAt 19 = .ok (.ldc 233, 2) := by decide +kernel
theorem dX5_documentAt_21 : decode cX5_documentAt 21 = .ok (.invokespecial 180, 3) := by decide +kernel
theorem dX5_documentAt_24 : decode cX5_documentAt 24 = .ok (.athrow, 1) := by decide +kernel
theorem dX5_documentAt_25 : decode cX5_documentAt 25 = .ok (.aload_n 0, 1) := by decide +kernel
theorem dX5_documentAt_26 : decode cX5_documentAt 26 = .ok (.getfield 42, 3) := by decide +kernel
theorem dX5_documentAt_29 : decode cX5_documentAt 29 = .ok (.iload_n 1, 1) := by decide +kernel
theorem dX5_documentAt_30 : decode cX5_documentAt 30 = .ok (.invokevirtual 126, 3) := by decide +kernel
theorem dX5_documentAt_33 : decode cX5_documentAt 33 = .ok (.checkcast 150, 3) := by decide +kernel
theorem dX5_documentAt_36 : decode cX5_documentAt 36 = .ok (.areturn, 1) := by decide +kernel
theorem dX5_pageOf_0 : decode cX5_pageOf 0 = .ok (.iload_n 1, 1) := by decide +kernel
theorem dX5_pageOf_1 : decode cX5_pageOf 1 = .ok (.ifCond .lt 11, 3) := by decide +kernel
theorem dX5_pageOf_4 : decode cX5_pageOf 4 = .ok (.iload_n 1, 1) := by decide +kernel
theorem dX5_pageOf_5 : decode cX5_pageOf 5 = .ok (.aload_n 0, 1) := by decide +kernel
theorem dX5_pageOf_6 : decode cX5_pageOf 6 = .ok (.getfield 161, 3) := by decide +kernel
theorem dX5_pageOf_9 : decode cX5_pageOf 9 = .ok (.if_icmp .lt 13, 3) := by decide +kernel
theorem dX5_pageOf_12 : decode cX5_pageOf 12 = .ok (.new 176, 3) := by decide +kernel
theorem dX5_pageOf_15 : decode cX5_pageOf 15 = .ok (.dup, 1) := by decide +kernel
theorem dX5_pageOf_16 : decode cX5_pageOf 16 = .ok (.ldc 229, 2) := by decide +kernel
theorem dX5_pageOf_18 : decode cX5_pageOf 18 = .ok (.invokespecial 180, 3) := by decide +kernel
theorem dX5_pageOf_21 : decode cX5_pageOf 21 = .ok (.athrow, 1) := by decide +kernel
theorem dX5_pageOf_22 : decode cX5_pageOf 22 = .ok (.aload_n 0, 1) := by decide +kernel
theorem dX5_pageOf_23 : decode cX5_pageOf 23 = .ok (.getfield 235, 3) := by decide +kernel
theorem dX5_pageOf_26 : decode cX5_pageOf 26 = .ok (.aload_n 0, 1) := by decide +kernel
theorem dX5_pageOf_27 : decode cX5_pageOf 27 = .ok (.getfield 238, 3) := by decide +kernel
theorem dX5_pageOf_30 : decode cX5_pageOf 30 = .ok (.iload_n 1, 1) := by decide +kernel
theorem dX5_pageOf_31 : decode cX5_pageOf 31 = .ok (.iadd, 1) := by decide +kernel
theorem dX5_pageOf_32 : decode cX5_pageOf 32 = .ok (.invokestatic 141, 3) := by decide +kernel
theorem dX5_pageOf_35 : decode cX5_pageOf 35 = .ok (.areturn, 1) := by decide +kernel
theorem dX5_readerAt_0 : decode cX5_readerAt 0 = .ok (.iload_n 1, 1) := by decide +kernel
theorem dX5_readerAt_1 : decode cX5_readerAt 1 = .ok (.ifCond .lt 14, 3) := by decide +kernel
theorem dX5_readerAt_4 : decode cX5_readerAt 4 = .ok (.iload_n 1, 1) := by decide +kernel
theorem dX5_readerAt_5 : decode cX5_readerAt 5 = .ok (.aload_n 0, 1) := by decide +kernel
theorem dX5_readerAt_6 : decode cX5_readerAt 6 = .ok (.getfield 45, 3) := by decide +kernel
theorem dX5_readerAt_9 : decode cX5_readerAt 9 = .ok (.invokevirtual 85, 3) := by decide +kernel
theorem dX5_readerAt_12 : decode cX5_readerAt 12 = .ok (.if_icmp .lt 13, 3) := by decide +kernel
theorem dX5_readerAt_15 : decode cX5_readerAt 15 = .ok (.new 211, 3) := by decide +kernel
theorem dX5_readerAt_18 : decode cX5_readerAt 18 = .ok (.dup, 1) := by decide +kernel
theorem dX5_readerAt_19 : decode cX5_readerAt 19 = .ok (.ldc 241, 2) := by decide +kernel
theorem dX5_readerAt_21 : decode cX5_readerAt 21 = .ok (.invokespecial 215, 3) := by decide +kernel
theorem dX5_readerAt_24 : decode cX5_readerAt 24 = .ok (.athrow, 1) := by decide +kernel
theorem dX5_readerAt_25 : decode cX5_readerAt 25 = .ok (.aload_n 0, 1) := by decide +kernel
theorem dX5_readerAt_26 : decode cX5_readerAt 26 = .ok (.getfield 45, 3) := by decide +kernel
theorem dX5_readerAt_29 : decode cX5_readerAt 29 = .ok (.iload_n 1, 1) := by decide +kernel
theorem dX5_readerAt_30 : decode cX5_readerAt 30 = .ok (.invokevirtual 126, 3) := by decide +kernel
theorem dX5_readerAt_33 : decode cX5_readerAt 33 = .ok (.checkcast 56, 3) := by decide +kernel
theorem dX5_readerAt_36 : decode cX5_readerAt 36 = .ok (.areturn, 1) := by decide +kernel
theorem dX5_closePage_0 : decode cX5_closePage 0 = .ok (.aload_n 0, 1) := by decide +kernel
theorem dX5_closePage_1 : decode cX5_closePage 1 = .ok (.getfield 31, 3) := by decide +kernel
theorem dX5_closePage_4 : decode cX5_closePage 4 = .ok (.getfield 103, 3) := by decide +kernel
theorem dX5_closePage_7 : decode cX5_closePage 7 = .ok (.aload_n 0, 1) := by decide +kernel
theorem dX5_closePage_8 : decode cX5_closePage 8 = .ok (.getfield 38, 3) := by decide +kernel
theorem dX5_closePage_11 : decode cX5_closePage 11 = .ok (.invokevirtual 61, 3) := by decide +kernel
theorem dX5_closePage_14 : decode cX5_closePage 14 = .ok (.pop, 1) := by decide +kernel
theorem dX5_closePage_15 : decode cX5_closePage 15 = .ok (.aload_n 0, 1) := by decide +kernel
theorem dX5_closePage_16 : decode cX5_closePage 16 = .ok (.new 35, 3) := by decide +kernel
theorem dX5_closePage_19 : decode cX5_closePage 19 = .ok (.dup, 1) := by decide +kernel
theorem dX5_closePage_20 : decode cX5_closePage 20 = .ok (.invokespecial 37, 3) := by decide +kernel
theorem dX5_closePage_23 : decode cX5_closePage 23 = .ok (.putfield 38, 3) := by decide +kernel
theorem dX5_closePage_26 : decode cX5_closePage 26 = .ok (.return_, 1) := by decide +kernel
theorem dX5_keepOpenRun_0 : decode cX5_keepOpenRun 0 = .ok (.aload_n 0, 1) := by decide +kernel
theorem dX5_keepOpenRun_1 : decode cX5_keepOpenRun 1 = .ok (.getfield 31, 3) := by decide +kernel
theorem dX5_keepOpenRun_4 : decode cX5_keepOpenRun 4 = .ok (.aload_n 0, 1) := by decide +kernel
theorem dX5_keepOpenRun_5 : decode cX5_keepOpenRun 5 = .ok (.getfield 74, 3) := by decide +kernel
theorem dX5_keepOpenRun_8 : decode cX5_keepOpenRun 8 = .ok (.putfield 243, 3) := by decide +kernel
theorem dX5_keepOpenRun_11 : decode cX5_keepOpenRun 11 = .ok (.aload_n 0, 1) := by decide +kernel
theorem dX5_keepOpenRun_12 : decode cX5_keepOpenRun 12 = .ok (.getfield 25, 3) := by decide +kernel
theorem dX5_keepOpenRun_15 : decode cX5_keepOpenRun 15 = .ok (.aload_n 0, 1) := by decide +kernel
theorem dX5_keepOpenRun_16 : decode cX5_keepOpenRun 16 = .ok (.getfield 31, 3) := by decide +kernel
theorem dX5_keepOpenRun_19 : decode cX5_keepOpenRun 19 = .ok (.invokevirtual 61, 3) := by decide +kernel
theorem dX5_keepOpenRun_22 : decode cX5_keepOpenRun 22 = .ok (.pop, 1) := by decide +kernel
theorem dX5_keepOpenRun_23 : decode cX5_keepOpenRun 23 = .ok (.aload_n 0, 1) := by decide +kernel
theorem dX5_keepOpenRun_24 : decode cX5_keepOpenRun 24 = .ok (.dup, 1) := by decide +kernel
theorem dX5_keepOpenRun_25 : decode cX5_keepOpenRun 25 = .ok (.getfield 100, 3) := by decide +kernel
theorem dX5_keepOpenRun_28 : decode cX5_keepOpenRun 28 = .ok (.aload_n 0, 1) := by decide +kernel
theorem dX5_keepOpenRun_29 : decode cX5_keepOpenRun 29 = .ok (.getfield 31, 3) := by decide +kernel
theorem dX5_keepOpenRun_32 : decode cX5_keepOpenRun 32 = .ok (.getfield 103, 3) := by decide +kernel
theorem dX5_keepOpenRun_35 : decode cX5_keepOpenRun 35 = .ok (.invokevirtual 85, 3) := by decide +kernel
theorem dX5_keepOpenRun_38 : decode cX5_keepOpenRun 38 = .ok (.iadd, 1) := by decide +kernel
theorem dX5_keepOpenRun_39 : decode cX5_keepOpenRun 39 = .ok (.putfield 100, 3) := by decide +kernel
theorem dX5_keepOpenRun_42 : decode cX5_keepOpenRun 42 = .ok (.aload_n 0, 1) := by decide +kernel
theorem dX5_keepOpenRun_43 : decode cX5_keepOpenRun 43 = .ok (.aload_n 0, 1) := by decide +kernel
theorem dX5_keepOpenRun_44 : decode cX5_keepOpenRun 44 = .ok (.getfield 31, 3) := by decide +kernel
theorem dX5_keepOpenRun_47 : decode cX5_keepOpenRun 47 = .ok (.invokevirtual 244, 3) := by decide +kernel
theorem dX5_keepOpenRun_50 : decode cX5_keepOpenRun 50 = .ok (.aload_n 0, 1) := by decide +kernel
theorem dX5_keepOpenRun_51 : decode cX5_keepOpenRun 51 = .ok (.new 28, 3) := by decide +kernel
theorem dX5_keepOpenRun_54 : decode cX5_keepOpenRun 54 = .ok (.dup, 1) := by decide +kernel
theorem dX5_keepOpenRun_55 : decode cX5_keepOpenRun 55 = .ok (.invokespecial 30, 3) := by decide +kernel
theorem dX5_keepOpenRun_58 : decode cX5_keepOpenRun 58 = .ok (.putfield 31, 3) := by decide +kernel
theorem dX5_keepOpenRun_61 : decode cX5_keepOpenRun 61 = .ok (.return_, 1) := by decide +kernel
theorem dX5_putTogether_0 : decode cX5_putTogether 0 = .ok (.aload_n 0, 1) := by decide +kernel
theorem dX5_putTogether_1 : decode cX5_putTogether 1 = .ok (.aload_n 1, 1) := by decide +kernel
theorem dX5_putTogether_2 : decode cX5_putTogether 2 = .ok (.getfield 243, 3) := by decide +kernel
theorem dX5_putTogether_5 : decode cX5_putTogether 5 = .ok (.invokevirtual 248, 3) := by decide +kernel
theorem dX5_putTogether_8 : decode cX5_putTogether 8 = .ok (.astore_n 2, 1) := by decide +kernel
theorem dX5_putTogether_9 : decode cX5_putTogether 9 = .ok (.aconst_null, 1) := by decide +kernel
theorem dX5_putTogether_10 : decode cX5_putTogether 10 = .ok (.astore_n 3, 1) := by decide +kernel
theorem dX5_putTogether_11 : decode cX5_putTogether 11 = .ok (.iconst 0, 1) := by decide +kernel
theorem dX5_putTogether_12 : decode cX5_putTogether 12 = .ok (.istore 4, 2) := by decide +kernel
theorem dX5_putTogether_14 : decode cX5_putTogether 14 = .ok (.iload 4, 2) := by decide +kernel
theorem dX5_putTogether_16 : decode cX5_putTogether 16 = .ok (.aload_n 1, 1) := by decide +kernel
theorem dX5_putTogether_17 : decode cX5_putTogether 17 = .ok (.getfield 103, 3) := by decide +kernel
theorem dX5_putTogether_20 : decode cX5_putTogether 20 = .ok (.invokevirtual 85, 3) := by decide +kernel
theorem dX5_putTogether_23 : decode cX5_putTogether 23 = .ok (.if_icmp .ge 91, 3) := by decide +kernel
theorem dX5_putTogether_26 : decode cX5_putTogether 26 = .ok (.aload_n 1, 1) := by decide +kernel
theorem dX5_putTogether_27 : decode cX5_putTogether 27 = .ok (.getfield 103, 3) := by decide +kernel
theorem dX5_putTogether_30 : decode cX5_putTogether 30 = .ok (.iload 4, 2) := by decide +kernel
theorem dX5_putTogether_32 : decode cX5_putTogether 32 = .ok (.invokevirtual 126, 3) := by decide +kernel
theorem dX5_putTogether_35 : decode cX5_putTogether 35 = .ok (.checkcast 35, 3) := by decide +kernel
theorem dX5_putTogether_38 : decode cX5_putTogether 38 = .ok (.astore 5, 2) := by decide +kernel
theorem dX5_putTogether_40 : decode cX5_putTogether 40 = .ok (.aload 5, 2) := by decide +kernel
theorem dX5_putTogether_42 : decode cX5_putTogether 42 = .ok (.aload_n 2, 1) := by decide +kernel
theorem dX5_putTogether_43 : decode cX5_putTogether 43 = .ok (.getfield 252, 3) := by decide +kernel
theorem dX5_putTogether_46 : decode cX5_putTogether 46 = .ok (.invokevirtual 198, 3) := by decide +kernel
theorem dX5_putTogether_49 : decode cX5_putTogether 49 = .ok (.istore 6, 2) := by decide +kernel
theorem dX5_putTogether_51 : decode cX5_putTogether 51 = .ok (.aload_n 3, 1) := by decide +kernel
theorem dX5_putTogether_52 : decode cX5_putTogether 52 = .ok (.ifnull 18, 3) := by decide +kernel
theorem dX5_putTogether_55 : decode cX5_putTogether 55 = .ok (.iload 6, 2) := by decide +kernel
theorem dX5_putTogether_57 : decode cX5_putTogether 57 = .ok (.iconst (-1), 1) := by decide +kernel
theorem dX5_putTogether_58 : decode cX5_putTogether 58 = .ok (.if_icmp .eq 40, 3) := by decide +kernel
theorem dX5_putTogether_61 : decode cX5_putTogether 61 = .ok (.iload 6, 2) := by decide +kernel
theorem dX5_putTogether_63 : decode cX5_putTogether 63 = .ok (.aload_n 3, 1) := by decide +kernel
theorem dX5_putTogether_64 : decode cX5_putTogether 64 = .ok (.getfield 155, 3) := by decide +kernel
theorem dX5_putTogether_67 : decode cX5_putTogether 67 = .ok (.if_icmp .eq 31, 3) := by decide +kernel
theorem dX5_putTogether_70 : decode cX5_putTogether 70 = .ok (.new 150, 3) := by decide +kernel
theorem dX5_putTogether_73 : decode cX5_putTogether 73 = .ok (.dup, 1) := by decide +kernel
theorem dX5_putTogether_74 : decode cX5_putTogether 74 = .ok (.aload_n 1, 1) := by decide +kernel
theorem dX5_putTogether_75 : decode cX5_putTogether 75 = .ok (.iload 4, 2) := by decide +kernel
theorem dX5_putTogether_77 : decode cX5_putTogether 77 = .ok (.iload 6, 2) := by decide +kernel
theorem dX5_putTogether_79 : decode cX5_putTogether 79 = .ok (.aload 5, 2) := by decide +kernel
theorem dX5_putTogether_81 : decode cX5_putTogether 81 = .ok (.aload_n 2, 1) := by decide +kernel
theorem dX5_putTogether_82 : decode cX5_putTogether 82 = .ok (.invokestatic 255, 3) := by decide +kernel
theorem dX5_putTogether_85 : decode cX5_putTogether 85 = .ok (.invokespecial 259, 3) := by decide +kernel
theorem dX5_putTogether_88 : decode cX5_putTogether 88 = .ok (.astore_n 3, 1) := by decide +kernel
theorem dX5_putTogether_89 : decode cX5_putTogether 89 = .ok (.aload_n 0, 1) := by decide +kernel
theorem dX5_putTogether_90 : decode cX5_putTogether 90 = .ok (.getfield 42, 3) := by decide +kernel
theorem dX5_putTogether_93 : decode cX5_putTogether 93 = .ok (.aload_n 3, 1) := by decide +kernel
theorem dX5_putTogether_94 : decode cX5_putTogether 94 = .ok (.invokevirtual 61, 3) := by decide +kernel
theorem dX5_putTogether_97 : decode cX5_putTogether 97 = .ok (.pop, 1) := by decide +kernel
theorem dX5_putTogether_98 : decode cX5_putTogether 98 = .ok (.aload_n 3, 1) := by decide +kernel
theorem dX5_putTogether_99 : decode cX5_putTogether 99 = .ok (.dup, 1) := by decide +kernel
theorem dX5_putTogether_100 : decode cX5_putTogether 100 = .ok (.getfield 161, 3) := by decide +kernel
theorem dX5_putTogether_103 : decode cX5_putTogether 103 = .ok (.iconst 1, 1) := by decide +kernel
theorem dX5_putTogether_104 : decode cX5_putTogether 104 = .ok (.iadd, 1) := by decide +kernel
theorem dX5_putTogether_105 : decode cX5_putTogether 105 = .ok (.putfield 161, 3) := by decide +kernel
theorem dX5_putTogether_108 : decode cX5_putTogether 108 = .ok (.iinc 4 1, 3) := by decide +kernel
theorem dX5_putTogether_111 : decode cX5_putTogether 111 = .ok (.goto (-97), 3) := by decide +kernel
theorem dX5_putTogether_114 : decode cX5_putTogether 114 = .ok (.return_, 1) := by decide +kernel
theorem dX5_kindOf_0 : decode cX5_kindOf 0 = .ok (.aload_n 0, 1) := by decide +kernel
theorem dX5_kindOf_1 : decode cX5_kindOf 1 = .ok (.aload_n 1, 1) := by decide +kernel
theorem dX5_kindOf_2 : decode cX5_kindOf 2 = .ok (.getfield 262, 3) := by decide +kernel
theorem dX5_kindOf_5 : decode cX5_kindOf 5 = .ok (.invokevirtual 185, 3) := by decide +kernel
theorem dX5_kindOf_8 : decode cX5_kindOf 8 = .ok (.ifCond .eq 16, 3) := by decide +kernel
theorem dX5_kindOf_11 : decode cX5_kindOf 11 = .ok (.aload_n 0, 1) := by decide +kernel
theorem dX5_kindOf_12 : decode cX5_kindOf 12 = .ok (.aload_n 1, 1) := by decide +kernel
theorem dX5_kindOf_13 : decode cX5_kindOf 13 = .ok (.getfield 262, 3) := by decide +kernel
theorem dX5_kindOf_16 : decode cX5_kindOf 16 = .ok (.invokevirtual 198, 3) := by decide +kernel
theorem dX5_kindOf_19 : decode cX5_kindOf 19 = .ok (.iconst 4, 1) := by decide +kernel
theorem dX5_kindOf_20 : decode cX5_kindOf 20 = .ok (.irem, 1) := by decide +kernel
theorem dX5_kindOf_21 : decode cX5_kindOf 21 = .ok (.goto 4, 3) := by decide +kernel
theorem dX5_kindOf_24 : decode cX5_kindOf 24 = .ok (.iconst 0, 1) := by decide +kernel
theorem dX5_kindOf_25 : decode cX5_kindOf 25 = .ok (.ireturn, 1) := by decide +kernel
theorem dX5_formatOn_0 : decode cX5_formatOn 0 = .ok (.aload_n 0, 1) := by decide +kernel
theorem dX5_formatOn_1 : decode cX5_formatOn 1 = .ok (.getfield 14, 3) := by decide +kernel
theorem dX5_formatOn_4 : decode cX5_formatOn 4 = .ok (.astore_n 2, 1) := by decide +kernel
theorem dX5_formatOn_5 : decode cX5_formatOn 5 = .ok (.iconst 0, 1) := by decide +kernel
theorem dX5_formatOn_6 : decode cX5_formatOn 6 = .ok (.istore_n 3, 1) := by decide +kernel
theorem dX5_formatOn_7 : decode cX5_formatOn 7 = .ok (.iload_n 3, 1) := by decide +kernel
theorem dX5_formatOn_8 : decode cX5_formatOn 8 = .ok (.aload_n 0, 1) := by decide +kernel
theorem dX5_formatOn_9 : decode cX5_formatOn 9 = .ok (.getfield 21, 3) := by decide +kernel
theorem dX5_formatOn_12 : decode cX5_formatOn 12 = .ok (.invokevirtual 85, 3) := by decide +kernel
theorem dX5_formatOn_15 : decode cX5_formatOn 15 = .ok (.if_icmp .ge 46, 3) := by decide +kernel
theorem dX5_formatOn_18 : decode cX5_formatOn 18 = .ok (.aload_n 0, 1) := by decide +kernel
theorem dX5_formatOn_19 : decode cX5_formatOn 19 = .ok (.getfield 21, 3) := by decide +kernel
theorem dX5_formatOn_22 : decode cX5_formatOn 22 = .ok (.iload_n 3, 1) := by decide +kernel
theorem dX5_formatOn_23 : decode cX5_formatOn 23 = .ok (.invokevirtual 126, 3) := by decide +kernel
theorem dX5_formatOn_26 : decode cX5_formatOn 26 = .ok (.checkcast 9, 3) := by decide +kernel
theorem dX5_formatOn_29 : decode cX5_formatOn 29 = .ok (.astore 4, 2) := by decide +kernel
theorem dX5_formatOn_31 : decode cX5_formatOn 31 = .ok (.aload 4, 2) := by decide +kernel
theorem dX5_formatOn_33 : decode cX5_formatOn 33 = .ok (.getfield 265, 3) := by decide +kernel
theorem dX5_formatOn_36 : decode cX5_formatOn 36 = .ok (.iload_n 1, 1) := by decide +kernel
theorem dX5_formatOn_37 : decode cX5_formatOn 37 = .ok (.if_icmp .gt 18, 3) := by decide +kernel
theorem dX5_formatOn_40 : decode cX5_formatOn 40 = .ok (.aload 4, 2) := by decide +kernel
theorem dX5_formatOn_42 : decode cX5_formatOn 42 = .ok (.getfield 265, 3) := by decide +kernel
theorem dX5_formatOn_45 : decode cX5_formatOn 45 = .ok (.aload_n 2, 1) := by decide +kernel
theorem dX5_formatOn_46 : decode cX5_formatOn 46 = .ok (.getfield 265, 3) := by decide +kernel
theorem dX5_formatOn_49 : decode cX5_formatOn 49 = .ok (.if_icmp .lt 6, 3) := by decide +kernel
theorem dX5_formatOn_52 : decode cX5_formatOn 52 = .ok (.aload 4, 2) := by decide +kernel
theorem dX5_formatOn_54 : decode cX5_formatOn 54 = .ok (.astore_n 2, 1) := by decide +kernel
theorem dX5_formatOn_55 : decode cX5_formatOn 55 = .ok (.iinc 3 1, 3) := by decide +kernel
theorem dX5_formatOn_58 : decode cX5_formatOn 58 = .ok (.goto (-51), 3) := by decide +kernel
theorem dX5_formatOn_61 : decode cX5_formatOn 61 = .ok (.aload_n 2, 1) := by decide +kernel
theorem dX5_formatOn_62 : decode cX5_formatOn 62 = .ok (.areturn, 1) := by decide +kernel
theorem dX5_isOver_0 : decode cX5_isOver 0 = .ok (.aload_n 0, 1) := by decide +kernel
theorem dX5_isOver_1 : decode cX5_isOver 1 = .ok (.aload_n 1, 1) := by decide +kernel
theorem dX5_isOver_2 : decode cX5_isOver 2 = .ok (.getfield 158, 3) := by decide +kernel
theorem dX5_isOver_5 : decode cX5_isOver 5 = .ok (.invokevirtual 208, 3) := by decide +kernel
theorem dX5_isOver_8 : decode cX5_isOver 8 = .ok (.ifCond .eq 31, 3) := by decide +kernel
theorem dX5_isOver_11 : decode cX5_isOver 11 = .ok (.aload_n 0, 1) := by decide +kernel
theorem dX5_isOver_12 : decode cX5_isOver 12 = .ok (.getfield 74, 3) := by decide +kernel
theorem dX5_isOver_15 : decode cX5_isOver 15 = .ok (.aload_n 1, 1) := by decide +kernel
theorem dX5_isOver_16 : decode cX5_isOver 16 = .ok (.getfield 235, 3) := by decide +kernel
theorem dX5_isOver_19 : decode cX5_isOver 19 = .ok (.getfield 243, 3) := by decide +kernel
theorem dX5_isOver_22 : decode cX5_isOver 22 = .ok (.aload_n 0, 1) := by decide +kernel
theorem dX5_isOver_23 : decode cX5_isOver 23 = .ok (.getfield 48, 3) := by decide +kernel
theorem dX5_isOver_26 : decode cX5_isOver 26 = .ok (.aload_n 1, 1) := by decide +kernel
theorem dX5_isOver_27 : decode cX5_isOver 27 = .ok (.getfield 158, 3) := by decide +kernel
theorem dX5_isOver_30 : decode cX5_isOver 30 = .ok (.iaload, 1) := by decide +kernel
theorem dX5_isOver_31 : decode cX5_isOver 31 = .ok (.iadd, 1) := by decide +kernel
theorem dX5_isOver_32 : decode cX5_isOver 32 = .ok (.if_icmp .le 7, 3) := by decide +kernel
theorem dX5_isOver_35 : decode cX5_isOver 35 = .ok (.iconst 1, 1) := by decide +kernel
theorem dX5_isOver_36 : decode cX5_isOver 36 = .ok (.goto 4, 3) := by decide +kernel
theorem dX5_isOver_39 : decode cX5_isOver 39 = .ok (.iconst 0, 1) := by decide +kernel
theorem dX5_isOver_40 : decode cX5_isOver 40 = .ok (.ireturn, 1) := by decide +kernel
theorem dX5_isHeld_0 : decode cX5_isHeld 0 = .ok (.aload_n 0, 1) := by decide +kernel
theorem dX5_isHeld_1 : decode cX5_isHeld 1 = .ok (.aload_n 1, 1) := by decide +kernel
theorem dX5_isHeld_2 : decode cX5_isHeld 2 = .ok (.getfield 155, 3) := by decide +kernel
theorem dX5_isHeld_5 : decode cX5_isHeld 5 = .ok (.invokevirtual 216, 3) := by decide +kernel
theorem dX5_isHeld_8 : decode cX5_isHeld 8 = .ok (.ifCond .eq 19, 3) := by decide +kernel
theorem dX5_isHeld_11 : decode cX5_isHeld 11 = .ok (.aload_n 0, 1) := by decide +kernel
theorem dX5_isHeld_12 : decode cX5_isHeld 12 = .ok (.getfield 52, 3) := by decide +kernel
theorem dX5_isHeld_15 : decode cX5_isHeld 15 = .ok (.aload_n 1, 1) := by decide +kernel
theorem dX5_isHeld_16 : decode cX5_isHeld 16 = .ok (.getfield 155, 3) := by decide +kernel
theorem dX5_isHeld_19 : decode cX5_isHeld 19 = .ok (.baload, 1) := by decide +kernel
theorem dX5_isHeld_20 : decode cX5_isHeld 20 = .ok (.ifCond .eq 7, 3) := by decide +kernel
theorem dX5_isHeld_23 : decode cX5_isHeld 23 = .ok (.iconst 1, 1) := by decide +kernel
theorem dX5_isHeld_24 : decode cX5_isHeld 24 = .ok (.goto 4, 3) := by decide +kernel
theorem dX5_isHeld_27 : decode cX5_isHeld 27 = .ok (.iconst 0, 1) := by decide +kernel
theorem dX5_isHeld_28 : decode cX5_isHeld 28 = .ok (.ireturn, 1) := by decide +kernel
theorem dX6_init_0 : decode cX6_init 0 = .ok (.aload_n 0, 1) := by decide +kernel
theorem dX6_init_1 : decode cX6_init 1 = .ok (.invokespecial 1, 3) := by decide +kernel
theorem dX6_init_4 : decode cX6_init 4 = .ok (.aload_n 0, 1) := by decide +kernel
theorem dX6_init_5 : decode cX6_init 5 = .ok (.bipush 10, 2) := by decide +kernel
theorem dX6_init_7 : decode cX6_init 7 = .ok (.newarray .int, 2) := by decide +kernel
theorem dX6_init_9 : decode cX6_init 9 = .ok (.putfield 7, 3) := by decide +kernel
theorem dX6_init_12 : decode cX6_init 12 = .ok (.aload_n 0, 1) := by decide +kernel
theorem dX6_init_13 : decode cX6_init 13 = .ok (.bipush 10, 2) := by decide +kernel
theorem dX6_init_15 : decode cX6_init 15 = .ok (.newarray .int, 2) := by decide +kernel
theorem dX6_init_17 : decode cX6_init 17 = .ok (.putfield 13, 3) := by decide +kernel
theorem dX6_init_20 : decode cX6_init 20 = .ok (.aload_n 0, 1) := by decide +kernel
theorem dX6_init_21 : decode cX6_init 21 = .ok (.bipush 10, 2) := by decide +kernel
theorem dX6_init_23 : decode cX6_init 23 = .ok (.newarray .int, 2) := by decide +kernel
theorem dX6_init_25 : decode cX6_init 25 = .ok (.putfield 16, 3) := by decide +kernel
theorem dX6_init_28 : decode cX6_init 28 = .ok (.aload_n 0, 1) := by decide +kernel
theorem dX6_init_29 : decode cX6_init 29 = .ok (.bipush 121, 2) := by decide +kernel
theorem dX6_init_31 : decode cX6_init 31 = .ok (.newarray .int, 2) := by decide +kernel
theorem dX6_init_33 : decode cX6_init 33 = .ok (.putfield 19, 3) := by decide +kernel
theorem dX6_init_36 : decode cX6_init 36 = .ok (.aload_n 0, 1) := by decide +kernel
theorem dX6_init_37 : decode cX6_init 37 = .ok (.sipush 968, 3) := by decide +kernel
theorem dX6_init_40 : decode cX6_init 40 = .ok (.newarray .int, 2) := by decide +kernel
theorem dX6_init_42 : decode cX6_init 42 = .ok (.putfield 22, 3) := by decide +kernel
theorem dX6_init_45 : decode cX6_init 45 = .ok (.aload_n 0, 1) := by decide +kernel
theorem dX6_init_46 : decode cX6_init 46 = .ok (.bipush 8, 2) := by decide +kernel
theorem dX6_init_48 : decode cX6_init 48 = .ok (.newarray .int, 2) := by decide +kernel
theorem dX6_init_50 : decode cX6_init 50 = .ok (.putfield 25, 3) := by decide +kernel
theorem dX6_init_53 : decode cX6_init 53 = .ok (.aload_n 0, 1) := by decide +kernel
theorem dX6_init_54 : decode cX6_init 54 = .ok (.bipush 121, 2) := by decide +kernel
theorem dX6_init_56 : decode cX6_init 56 = .ok (.newarray .int, 2) := by decide +kernel
theorem dX6_init_58 : decode cX6_init 58 = .ok (.putfield 28, 3) := by decide +kernel
theorem dX6_init_61 : decode cX6_init 61 = .ok (.aload_n 0, 1) := by decide +kernel
theorem dX6_init_62 : decode cX6_init 62 = .ok (.bipush 15, 2) := by decide +kernel
theorem dX6_init_64 : decode cX6_init 64 = .ok (.newarray .int, 2) := by decide +kernel
theorem dX6_init_66 : decode cX6_init 66 = .ok (.putfield 31, 3) := by decide +kernel
theorem dX6_init_69 : decode cX6_init 69 = .ok (.aload_n 0, 1) := by decide +kernel
theorem dX6_init_70 : decode cX6_init 70 = .ok (.bipush 15, 2) := by decide +kernel
theorem dX6_init_72 : decode cX6_init 72 = .ok (.newarray .int, 2) := by decide +kernel
theorem dX6_init_74 : decode cX6_init 74 = .ok (.putfield 34, 3) := by decide +kernel
theorem dX6_init_77 : decode cX6_init 77 = .ok (.aload_n 0, 1) := by decide +kernel
theorem dX6_init_78 : decode cX6_init 78 = .ok (.bipush 15, 2) := by decide +kernel
theorem dX6_init_80 : decode cX6_init 80 = .ok (.newarray .int, 2) := by decide +kernel
theorem dX6_init_82 : decode cX6_init 82 = .ok (.putfield 37, 3) := by decide +kernel
theorem dX6_init_85 : decode cX6_init 85 = .ok (.aload_n 0, 1) := by decide +kernel
theorem dX6_init_86 : decode cX6_init 86 = .ok (.bipush 120, 2) := by decide +kernel
theorem dX6_init_88 : decode cX6_init 88 = .ok (.newarray .int, 2) := by decide +kernel
theorem dX6_init_90 : decode cX6_init 90 = .ok (.putfield 40, 3) := by decide +kernel
theorem dX6_init_93 : decode cX6_init 93 = .ok (.aload_n 0, 1) := by decide +kernel
theorem dX6_init_94 : decode cX6_init 94 = .ok (.bipush 120, 2) := by decide +kernel
theorem dX6_init_96 : decode cX6_init 96 = .ok (.newarray .int, 2) := by decide +kernel
theorem dX6_init_98 : decode cX6_init 98 = .ok (.putfield 43, 3) := by decide +kernel
theorem dX6_init_101 : decode cX6_init 101 = .ok (.aload_n 0, 1) := by decide +kernel
theorem dX6_init_102 : decode cX6_init 102 = .ok (.bipush 120, 2) := by decide +kernel
theorem dX6_init_104 : decode cX6_init 104 = .ok (.newarray .int, 2) := by decide +kernel
theorem dX6_init_106 : decode cX6_init 106 = .ok (.putfield 46, 3) := by decide +kernel
theorem dX6_init_109 : decode cX6_init 109 = .ok (.aload_n 0, 1) := by decide +kernel
theorem dX6_init_110 : decode cX6_init 110 = .ok (.bipush 120, 2) := by decide +kernel
theorem dX6_init_112 : decode cX6_init 112 = .ok (.newarray .int, 2) := by decide +kernel
theorem dX6_init_114 : decode cX6_init 114 = .ok (.putfield 49, 3) := by decide +kernel
theorem dX6_init_117 : decode cX6_init 117 = .ok (.aload_n 0, 1) := by decide +kernel
theorem dX6_init_118 : decode cX6_init 118 = .ok (.bipush 120, 2) := by decide +kernel
theorem dX6_init_120 : decode cX6_init 120 = .ok (.newarray .int, 2) := by decide +kernel
theorem dX6_init_122 : decode cX6_init 122 = .ok (.putfield 52, 3) := by decide +kernel
theorem dX6_init_125 : decode cX6_init 125 = .ok (.aload_n 0, 1) := by decide +kernel
theorem dX6_init_126 : decode cX6_init 126 = .ok (.bipush 120, 2) := by decide +kernel
theorem dX6_init_128 : decode cX6_init 128 = .ok (.newarray .boolean, 2) := by decide +kernel
theorem dX6_init_130 : decode cX6_init 130 = .ok (.putfield 55, 3) := by decide +kernel
theorem dX6_init_133 : decode cX6_init 133 = .ok (.aload_n 0, 1) := by decide +kernel
theorem dX6_init_134 : decode cX6_init 134 = .ok (.iconst 4, 1) := by decide +kernel
theorem dX6_init_135 : decode cX6_init 135 = .ok (.newarray .int, 2) := by decide +kernel
theorem dX6_init_137 : decode cX6_init 137 = .ok (.putfield 59, 3) := by decide +kernel
theorem dX6_init_140 : decode cX6_init 140 = .ok (.aload_n 0, 1) := by decide +kernel
theorem dX6_init_141 : decode cX6_init 141 = .ok (.iconst 4, 1) := by decide +kernel
theorem dX6_init_142 : decode cX6_init 142 = .ok (.newarray .int, 2) := by decide +kernel
theorem dX6_init_144 : decode cX6_init 144 = .ok (.dup, 1) := by decide +kernel
theorem dX6_init_145 : decode cX6_init 145 = .ok (.iconst 0, 1) := by decide +kernel
theorem dX6_init_146 : decode cX6_init 146 = .ok (.bipush 99, 2) := by decide +kernel
theorem dX6_init_148 : decode cX6_init 148 = .ok (.iastore, 1) := by decide +kernel
theorem dX6_init_149 : decode cX6_init 149 = .ok (.dup, 1) := by decide +kernel
theorem dX6_init_150 : decode cX6_init 150 = .ok (.iconst 1, 1) := by decide +kernel
theorem dX6_init_151 : decode cX6_init 151 = .ok (.bipush 99, 2) := by decide +kernel
theorem dX6_init_153 : decode cX6_init 153 = .ok (.iastore, 1) := by decide +kernel
theorem dX6_init_154 : decode cX6_init 154 = .ok (.dup, 1) := by decide +kernel
theorem dX6_init_155 : decode cX6_init 155 = .ok (.iconst 2, 1) := by decide +kernel
theorem dX6_init_156 : decode cX6_init 156 = .ok (.bipush 99, 2) := by decide +kernel
theorem dX6_init_158 : decode cX6_init 158 = .ok (.iastore, 1) := by decide +kernel
theorem dX6_init_159 : decode cX6_init 159 = .ok (.dup, 1) := by decide +kernel
theorem dX6_init_160 : decode cX6_init 160 = .ok (.iconst 3, 1) := by decide +kernel
theorem dX6_init_161 : decode cX6_init 161 = .ok (.bipush 99, 2) := by decide +kernel
theorem dX6_init_163 : decode cX6_init 163 = .ok (.iastore, 1) := by decide +kernel
theorem dX6_init_164 : decode cX6_init 164 = .ok (.putfield 62, 3) := by decide +kernel
theorem dX6_init_167 : decode cX6_init 167 = .ok (.aload_n 0, 1) := by decide +kernel
theorem dX6_init_168 : decode cX6_init 168 = .ok (.iconst 4, 1) := by decide +kernel
theorem dX6_init_169 : decode cX6_init 169 = .ok (.newarray .int, 2) := by decide +kernel
theorem dX6_init_171 : decode cX6_init 171 = .ok (.dup, 1) := by decide +kernel
theorem dX6_init_172 : decode cX6_init 172 = .ok (.iconst 0, 1) := by decide +kernel
theorem dX6_init_173 : decode cX6_init 173 = .ok (.iconst (-1), 1) := by decide +kernel
theorem dX6_init_174 : decode cX6_init 174 = .ok (.iastore, 1) := by decide +kernel
theorem dX6_init_175 : decode cX6_init 175 = .ok (.dup, 1) := by decide +kernel
theorem dX6_init_176 : decode cX6_init 176 = .ok (.iconst 1, 1) := by decide +kernel
theorem dX6_init_177 : decode cX6_init 177 = .ok (.iconst (-1), 1) := by decide +kernel
theorem dX6_init_178 : decode cX6_init 178 = .ok (.iastore, 1) := by decide +kernel
theorem dX6_init_179 : decode cX6_init 179 = .ok (.dup, 1) := by decide +kernel
theorem dX6_init_180 : decode cX6_init 180 = .ok (.iconst 2, 1) := by decide +kernel
theorem dX6_init_181 : decode cX6_init 181 = .ok (.iconst (-1), 1) := by decide +kernel
theorem dX6_init_182 : decode cX6_init 182 = .ok (.iastore, 1) := by decide +kernel
theorem dX6_init_183 : decode cX6_init 183 = .ok (.dup, 1) := by decide +kernel
theorem dX6_init_184 : decode cX6_init 184 = .ok (.iconst 3, 1) := by decide +kernel
theorem dX6_init_185 : decode cX6_init 185 = .ok (.iconst (-1), 1) := by decide +kernel
theorem dX6_init_186 : decode cX6_init 186 = .ok (.iastore, 1) := by decide +kernel
theorem dX6_init_187 : decode cX6_init 187 = .ok (.putfield 65, 3) := by decide +kernel
theorem dX6_init_190 : decode cX6_init 190 = .ok (.aload_n 0, 1) := by decide +kernel
theorem dX6_init_191 : decode cX6_init 191 = .ok (.iconst 4, 1) := by decide +kernel
theorem dX6_init_192 : decode cX6_init 192 = .ok (.newarray .int, 2) := by decide +kernel
theorem dX6_init_194 : decode cX6_init 194 = .ok (.dup, 1) := by decide +kernel
theorem dX6_init_195 : decode cX6_init 195 = .ok (.iconst 0, 1) := by decide +kernel
theorem dX6_init_196 : decode cX6_init 196 = .ok (.bipush 100, 2) := by decide +kernel
theorem dX6_init_198 : decode cX6_init 198 = .ok (.iastore, 1) := by decide +kernel
theorem dX6_init_199 : decode cX6_init 199 = .ok (.dup, 1) := by decide +kernel
theorem dX6_init_200 : decode cX6_init 200 = .ok (.iconst 1, 1) := by decide +kernel
theorem dX6_init_201 : decode cX6_init 201 = .ok (.bipush 100, 2) := by decide +kernel
theorem dX6_init_203 : decode cX6_init 203 = .ok (.iastore, 1) := by decide +kernel
theorem dX6_init_204 : decode cX6_init 204 = .ok (.dup, 1) := by decide +kernel
theorem dX6_init_205 : decode cX6_init 205 = .ok (.iconst 2, 1) := by decide +kernel
theorem dX6_init_206 : decode cX6_init 206 = .ok (.bipush 100, 2) := by decide +kernel
theorem dX6_init_208 : decode cX6_init 208 = .ok (.iastore, 1) := by decide +kernel
theorem dX6_init_209 : decode cX6_init 209 = .ok (.dup, 1) := by decide +kernel
theorem dX6_init_210 : decode cX6_init 210 = .ok (.iconst 3, 1) := by decide +kernel
theorem dX6_init_211 : decode cX6_init 211 = .ok (.bipush 100, 2) := by decide +kernel
theorem dX6_init_213 : decode cX6_init 213 = .ok (.iastore, 1) := by decide +kernel
theorem dX6_init_214 : decode cX6_init 214 = .ok (.putfield 68, 3) := by decide +kernel
theorem dX6_init_217 : decode cX6_init 217 = .ok (.aload_n 0, 1) := by decide +kernel
theorem dX6_init_218 : decode cX6_init 218 = .ok (.bipush 100, 2) := by decide +kernel
theorem dX6_init_220 : decode cX6_init 220 = .ok (.newarray .boolean, 2) := by decide +kernel
theorem dX6_init_222 : decode cX6_init 222 = .ok (.putfield 71, 3) := by decide +kernel
theorem dX6_init_225 : decode cX6_init 225 = .ok (.return_, 1) := by decide +kernel
theorem dX6_thrown_0 : decode cX6_thrown 0 = .ok (.aload_n 0, 1) := by decide +kernel
theorem dX6_thrown_1 : decode cX6_thrown 1 = .ok (.getfield 74, 3) := by decide +kernel
theorem dX6_thrown_4 : decode cX6_thrown 4 = .ok (.ireturn, 1) := by decide +kernel
theorem dX6_in_0 : decode cX6_in 0 = .ok (.iload_n 0, 1) := by decide +kernel
theorem dX6_in_1 : decode cX6_in 1 = .ok (.iload_n 1, 1) := by decide +kernel
theorem dX6_in_2 : decode cX6_in 2 = .ok (.if_icmp .lt 12, 3) := by decide +kernel
theorem dX6_in_5 : decode cX6_in 5 = .ok (.iload_n 0, 1) := by decide +kernel
theorem dX6_in_6 : decode cX6_in 6 = .ok (.iload_n 2, 1) := by decide +kernel
theorem dX6_in_7 : decode cX6_in 7 = .ok (.if_icmp .gt 7, 3) := by decide +kernel
theorem dX6_in_10 : decode cX6_in 10 = .ok (.iconst 1, 1) := by decide +kernel
theorem dX6_in_11 : decode cX6_in 11 = .ok (.goto 4, 3) := by decide +kernel
theorem dX6_in_14 : decode cX6_in 14 = .ok (.iconst 0, 1) := by decide +kernel
theorem dX6_in_15 : decode cX6_in 15 = .ok (.ireturn, 1) := by decide +kernel
theorem dX6_isRun_0 : decode cX6_isRun 0 = .ok (.iload_n 1, 1) := by decide +kernel
theorem dX6_isRun_1 : decode cX6_isRun 1 = .ok (.iconst 0, 1) := by decide +kernel
theorem dX6_isRun_2 : decode cX6_isRun 2 = .ok (.aload_n 0, 1) := by decide +kernel
theorem dX6_isRun_3 : decode cX6_isRun 3 = .ok (.getfield 78, 3) := by decide +kernel
theorem dX6_isRun_6 : decode cX6_isRun 6 = .ok (.iconst 1, 1) := by decide +kernel
theorem dX6_isRun_7 : decode cX6_isRun 7 = .ok (.isub, 1) := by decide +kernel
theorem dX6_isRun_8 : decode cX6_isRun 8 = .ok (.invokestatic 81, 3) := by decide +kernel
theorem dX6_isRun_11 : decode cX6_isRun 11 = .ok (.ireturn, 1) := by decide +kernel
theorem dX6_pass_0 : decode cX6_pass 0 = .ok (.aload_n 0, 1) := by decide +kernel
theorem dX6_pass_1 : decode cX6_pass 1 = .ok (.iload_n 1, 1) := by decide +kernel
theorem dX6_pass_2 : decode cX6_pass 2 = .ok (.iconst 1, 1) := by decide +kernel
theorem dX6_pass_3 : decode cX6_pass 3 = .ok (.sipush 1000, 3) := by decide +kernel
theorem dX6_pass_6 : decode cX6_pass 6 = .ok (.invokestatic 81, 3) := by decide +kernel
theorem dX6_pass_9 : decode cX6_pass 9 = .ok (.ifCond .ne 7, 3) := by decide +kernel
theorem dX6_pass_12 : decode cX6_pass 12 = .ok (.iconst 1, 1) := by decide +kernel
theorem dX6_pass_13 : decode cX6_pass 13 = .ok (.goto 20, 3) := by decide +kernel
theorem dX6_pass_16 : decode cX6_pass 16 = .ok (.aload_n 0, 1) := by decide +kernel
theorem dX6_pass_17 : decode cX6_pass 17 = .ok (.getfield 85, 3) := by decide +kernel
theorem dX6_pass_20 : decode cX6_pass 20 = .ok (.iload_n 1, 1) := by decide +kernel
theorem dX6_pass_21 : decode cX6_pass 21 = .ok (.iadd, 1) := by decide +kernel
theorem dX6_pass_22 : decode cX6_pass 22 = .ok (.sipush 9999, 3) := by decide +kernel
theorem dX6_pass_25 : decode cX6_pass 25 = .ok (.if_icmp .le 7, 3) := by decide +kernel
theorem dX6_pass_28 : decode cX6_pass 28 = .ok (.iconst 2, 1) := by decide +kernel
theorem dX6_pass_29 : decode cX6_pass 29 = .ok (.goto 4, 3) := by decide +kernel
theorem dX6_pass_32 : decode cX6_pass 32 = .ok (.iconst 0, 1) := by decide +kernel
theorem dX6_pass_33 : decode cX6_pass 33 = .ok (.putfield 74, 3) := by decide +kernel
theorem dX6_pass_36 : decode cX6_pass 36 = .ok (.aload_n 0, 1) := by decide +kernel
theorem dX6_pass_37 : decode cX6_pass 37 = .ok (.getfield 74, 3) := by decide +kernel
theorem dX6_pass_40 : decode cX6_pass 40 = .ok (.ifCond .le 5, 3) := by decide +kernel
theorem dX6_pass_43 : decode cX6_pass 43 = .ok (.iconst 0, 1) := by decide +kernel
theorem dX6_pass_44 : decode cX6_pass 44 = .ok (.ireturn, 1) := by decide +kernel
theorem dX6_pass_45 : decode cX6_pass 45 = .ok (.aload_n 0, 1) := by decide +kernel
theorem dX6_pass_46 : decode cX6_pass 46 = .ok (.dup, 1) := by decide +kernel
theorem dX6_pass_47 : decode cX6_pass 47 = .ok (.getfield 85, 3) := by decide +kernel
theorem dX6_pass_50 : decode cX6_pass 50 = .ok (.iload_n 1, 1) := by decide +kernel
theorem dX6_pass_51 : decode cX6_pass 51 = .ok (.iadd, 1) := by decide +kernel
theorem dX6_pass_52 : decode cX6_pass 52 = .ok (.putfield 85, 3) := by decide +kernel
theorem dX6_pass_55 : decode cX6_pass 55 = .ok (.aload_n 0, 1) := by decide +kernel
theorem dX6_pass_56 : decode cX6_pass 56 = .ok (.getfield 85, 3) := by decide +kernel
theorem dX6_pass_59 : decode cX6_pass 59 = .ok (.ireturn, 1) := by decide +kernel
theorem dX6_format_0 : decode cX6_format 0 = .ok (.iload_n 1, 1) := by decide +kernel
theorem dX6_format_1 : decode cX6_format 1 = .ok (.iconst 0, 1) := by decide +kernel
theorem dX6_format_2 : decode cX6_format 2 = .ok (.sipush 9999, 3) := by decide +kernel
theorem dX6_format_5 : decode cX6_format 5 = .ok (.invokestatic 81, 3) := by decide +kernel
theorem dX6_format_8 : decode cX6_format 8 = .ok (.ifCond .eq 27, 3) := by decide +kernel
theorem dX6_format_11 : decode cX6_format 11 = .ok (.iload_n 2, 1) := by decide +kernel
theorem dX6_format_12 : decode cX6_format 12 = .ok (.iconst 0, 1) := by decide +kernel
theorem dX6_format_13 : decode cX6_format 13 = .ok (.bipush 7, 2) := by decide +kernel
theorem dX6_format_15 : decode cX6_format 15 = .ok (.invokestatic 81, 3) := by decide +kernel
theorem dX6_format_18 : decode cX6_format 18 = .ok (.ifCond .eq 17, 3) := by decide +kernel
theorem dX6_format_21 : decode cX6_format 21 = .ok (.iload_n 3, 1) := by decide +kernel
theorem dX6_format_22 : decode cX6_format 22 = .ok (.iconst 0, 1) := by decide +kernel
theorem dX6_format_23 : decode cX6_format 23 = .ok (.bipush 7, 2) := by decide +kernel
theorem dX6_format_25 : decode cX6_format 25 = .ok (.invokestatic 81, 3) := by decide +kernel
theorem dX6_format_28 : decode cX6_format 28 = .ok (.ifCond .eq 7, 3) := by decide +kernel
theorem dX6_format_31 : decode cX6_format 31 = .ok (.iconst 1, 1) := by decide +kernel
theorem dX6_format_32 : decode cX6_format 32 = .ok (.goto 4, 3) := by decide +kernel
theorem dX6_format_35 : decode cX6_format 35 = .ok (.iconst 0, 1) := by decide +kernel
theorem dX6_format_36 : decode cX6_format 36 = .ok (.istore 4, 2) := by decide +kernel
theorem dX6_format_38 : decode cX6_format 38 = .ok (.aload_n 0, 1) := by decide +kernel
theorem dX6_format_39 : decode cX6_format 39 = .ok (.iload 4, 2) := by decide +kernel
theorem dX6_format_41 : decode cX6_format 41 = .ok (.ifCond .ne 7, 3) := by decide +kernel
theorem dX6_format_44 : decode cX6_format 44 = .ok (.iconst 1, 1) := by decide +kernel
theorem dX6_format_45 : decode cX6_format 45 = .ok (.goto 17, 3) := by decide +kernel
theorem dX6_format_48 : decode cX6_format 48 = .ok (.aload_n 0, 1) := by decide +kernel
theorem dX6_format_49 : decode cX6_format 49 = .ok (.getfield 88, 3) := by decide +kernel
theorem dX6_format_52 : decode cX6_format 52 = .ok (.bipush 10, 2) := by decide +kernel
theorem dX6_format_54 : decode cX6_format 54 = .ok (.if_icmp .ne 7, 3) := by decide +kernel
theorem dX6_format_57 : decode cX6_format 57 = .ok (.iconst 2, 1) := by decide +kernel
theorem dX6_format_58 : decode cX6_format 58 = .ok (.goto 4, 3) := by decide +kernel
theorem dX6_format_61 : decode cX6_format 61 = .ok (.iconst 0, 1) := by decide +kernel
theorem dX6_format_62 : decode cX6_format 62 = .ok (.putfield 74, 3) := by decide +kernel
theorem dX6_format_65 : decode cX6_format 65 = .ok (.aload_n 0, 1) := by decide +kernel
theorem dX6_format_66 : decode cX6_format 66 = .ok (.getfield 74, 3) := by decide +kernel
theorem dX6_format_69 : decode cX6_format 69 = .ok (.ifCond .le 5, 3) := by decide +kernel
theorem dX6_format_72 : decode cX6_format 72 = .ok (.iconst 0, 1) := by decide +kernel
theorem dX6_format_73 : decode cX6_format 73 = .ok (.ireturn, 1) := by decide +kernel
theorem dX6_format_74 : decode cX6_format 74 = .ok (.aload_n 0, 1) := by decide +kernel
theorem dX6_format_75 : decode cX6_format 75 = .ok (.getfield 7, 3) := by decide +kernel
theorem dX6_format_78 : decode cX6_format 78 = .ok (.aload_n 0, 1) := by decide +kernel
theorem dX6_format_79 : decode cX6_format 79 = .ok (.getfield 88, 3) := by decide +kernel
theorem dX6_format_82 : decode cX6_format 82 = .ok (.iload_n 1, 1) := by decide +kernel
theorem dX6_format_83 : decode cX6_format 83 = .ok (.iastore, 1) := by decide +kernel
theorem dX6_format_84 : decode cX6_format 84 = .ok (.aload_n 0, 1) := by decide +kernel
theorem dX6_format_85 : decode cX6_format 85 = .ok (.getfield 13, 3) := by decide +kernel
theorem dX6_format_88 : decode cX6_format 88 = .ok (.aload_n 0, 1) := by decide +kernel
theorem dX6_format_89 : decode cX6_format 89 = .ok (.getfield 88, 3) := by decide +kernel
theorem dX6_format_92 : decode cX6_format 92 = .ok (.iload_n 2, 1) := by decide +kernel
theorem dX6_format_93 : decode cX6_format 93 = .ok (.iastore, 1) := by decide +kernel
theorem dX6_format_94 : decode cX6_format 94 = .ok (.aload_n 0, 1) := by decide +kernel
theorem dX6_format_95 : decode cX6_format 95 = .ok (.getfield 16, 3) := by decide +kernel
theorem dX6_format_98 : decode cX6_format 98 = .ok (.aload_n 0, 1) := by decide +kernel
theorem dX6_format_99 : decode cX6_format 99 = .ok (.getfield 88, 3) := by decide +kernel
theorem dX6_format_102 : decode cX6_format 102 = .ok (.iload_n 3, 1) := by decide +kernel
theorem dX6_format_103 : decode cX6_format 103 = .ok (.iastore, 1) := by decide +kernel
theorem dX6_format_104 : decode cX6_format 104 = .ok (.aload_n 0, 1) := by decide +kernel
theorem dX6_format_105 : decode cX6_format 105 = .ok (.dup, 1) := by decide +kernel
theorem dX6_format_106 : decode cX6_format 106 = .ok (.getfield 88, 3) := by decide +kernel
theorem dX6_format_109 : decode cX6_format 109 = .ok (.iconst 1, 1) := by decide +kernel
theorem dX6_format_110 : decode cX6_format 110 = .ok (.iadd, 1) := by decide +kernel
theorem dX6_format_111 : decode cX6_format 111 = .ok (.putfield 88, 3) := by decide +kernel
theorem dX6_format_114 : decode cX6_format 114 = .ok (.aload_n 0, 1) := by decide +kernel
theorem dX6_format_115 : decode cX6_format 115 = .ok (.getfield 88, 3) := by decide +kernel
theorem dX6_format_118 : decode cX6_format 118 = .ok (.ireturn, 1) := by decide +kernel
theorem dX6_formatNow_0 : decode cX6_formatNow 0 = .ok (.iconst (-1), 1) := by decide +kernel
theorem dX6_formatNow_1 : decode cX6_formatNow 1 = .ok (.istore_n 1, 1) := by decide +kernel
theorem dX6_formatNow_2 : decode cX6_formatNow 2 = .ok (.iconst 0, 1) := by decide +kernel
theorem dX6_formatNow_3 : decode cX6_formatNow 3 = .ok (.istore_n 2, 1) := by decide +kernel
theorem dX6_formatNow_4 : decode cX6_formatNow 4 = .ok (.iload_n 2, 1) := by decide +kernel
theorem dX6_formatNow_5 : decode cX6_formatNow 5 = .ok (.aload_n 0, 1) := by decide +kernel
theorem dX6_formatNow_6 : decode cX6_formatNow 6 = .ok (.getfield 88, 3) := by decide +kernel
theorem dX6_formatNow_9 : decode cX6_formatNow 9 = .ok (.if_icmp .ge 58, 3) := by decide +kernel
theorem dX6_formatNow_12 : decode cX6_formatNow 12 = .ok (.aload_n 0, 1) := by decide +kernel
theorem dX6_formatNow_13 : decode cX6_formatNow 13 = .ok (.getfield 7, 3) := by decide +kernel
theorem dX6_formatNow_16 : decode cX6_formatNow 16 = .ok (.iload_n 2, 1) := by decide +kernel
theorem dX6_formatNow_17 : decode cX6_formatNow 17 = .ok (.iaload, 1) := by decide +kernel
theorem dX6_formatNow_18 : decode cX6_formatNow 18 = .ok (.aload_n 0, 1) := by decide +kernel
theorem dX6_formatNow_19 : decode cX6_formatNow 19 = .ok (.getfield 85, 3) := by decide +kernel
theorem dX6_formatNow_22 : decode cX6_formatNow 22 = .ok (.if_icmp .gt 27, 3) := by decide +kernel
theorem dX6_formatNow_25 : decode cX6_formatNow 25 = .ok (.iload_n 1, 1) := by decide +kernel
theorem dX6_formatNow_26 : decode cX6_formatNow 26 = .ok (.iconst (-1), 1) := by decide +kernel
theorem dX6_formatNow_27 : decode cX6_formatNow 27 = .ok (.if_icmp .eq 18, 3) := by decide +kernel
theorem dX6_formatNow_30 : decode cX6_formatNow 30 = .ok (.aload_n 0, 1) := by decide +kernel
theorem dX6_formatNow_31 : decode cX6_formatNow 31 = .ok (.getfield 7, 3) := by decide +kernel
theorem dX6_formatNow_34 : decode cX6_formatNow 34 = .ok (.iload_n 2, 1) := by decide +kernel
theorem dX6_formatNow_35 : decode cX6_formatNow 35 = .ok (.iaload, 1) := by decide +kernel
theorem dX6_formatNow_36 : decode cX6_formatNow 36 = .ok (.aload_n 0, 1) := by decide +kernel
theorem dX6_formatNow_37 : decode cX6_formatNow 37 = .ok (.getfield 7, 3) := by decide +kernel
theorem dX6_formatNow_40 : decode cX6_formatNow 40 = .ok (.iload_n 1, 1) := by decide +kernel
theorem dX6_formatNow_41 : decode cX6_formatNow 41 = .ok (.iaload, 1) := by decide +kernel
theorem dX6_formatNow_42 : decode cX6_formatNow 42 = .ok (.if_icmp .lt 7, 3) := by decide +kernel
theorem dX6_formatNow_45 : decode cX6_formatNow 45 = .ok (.iconst 1, 1) := by decide +kernel
theorem dX6_formatNow_46 : decode cX6_formatNow 46 = .ok (.goto 4, 3) := by decide +kernel
theorem dX6_formatNow_49 : decode cX6_formatNow 49 = .ok (.iconst 0, 1) := by decide +kernel
theorem dX6_formatNow_50 : decode cX6_formatNow 50 = .ok (.istore_n 3, 1) := by decide +kernel
theorem dX6_formatNow_51 : decode cX6_formatNow 51 = .ok (.iload_n 3, 1) := by decide +kernel
theorem dX6_formatNow_52 : decode cX6_formatNow 52 = .ok (.ifCond .eq 7, 3) := by decide +kernel
theorem dX6_formatNow_55 : decode cX6_formatNow 55 = .ok (.iload_n 2, 1) := by decide +kernel
theorem dX6_formatNow_56 : decode cX6_formatNow 56 = .ok (.goto 4, 3) := by decide +kernel
theorem dX6_formatNow_59 : decode cX6_formatNow 59 = .ok (.iload_n 1, 1) := by decide +kernel
theorem dX6_formatNow_60 : decode cX6_formatNow 60 = .ok (.istore_n 1, 1) := by decide +kernel
theorem dX6_formatNow_61 : decode cX6_formatNow 61 = .ok (.iinc 2 1, 3) := by decide +kernel
theorem dX6_formatNow_64 : decode cX6_formatNow 64 = .ok (.goto (-60), 3) := by decide +kernel
theorem dX6_formatNow_67 : decode cX6_formatNow 67 = .ok (.iload_n 1, 1) := by decide +kernel
theorem dX6_formatNow_68 : decode cX6_formatNow 68 = .ok (.ireturn, 1) := by decide +kernel
theorem dX6_line_0 : decode cX6_line 0 = .ok (.aload_n 0, 1) := by decide +kernel
theorem dX6_line_1 : decode cX6_line 1 = .ok (.iload_n 1, 1) := by decide +kernel
theorem dX6_line_2 : decode cX6_line 2 = .ok (.iconst 0, 1) := by decide +kernel
theorem dX6_line_3 : decode cX6_line 3 = .ok (.bipush 99, 2) := by decide +kernel
theorem dX6_line_5 : decode cX6_line 5 = .ok (.invokestatic 81, 3) := by decide +kernel
theorem dX6_line_8 : decode cX6_line 8 = .ok (.ifCond .ne 7, 3) := by decide +kernel
theorem dX6_line_11 : decode cX6_line 11 = .ok (.iconst 1, 1) := by decide +kernel
theorem dX6_line_12 : decode cX6_line 12 = .ok (.goto 17, 3) := by decide +kernel
theorem dX6_line_15 : decode cX6_line 15 = .ok (.aload_n 0, 1) := by decide +kernel
theorem dX6_line_16 : decode cX6_line 16 = .ok (.getfield 91, 3) := by decide +kernel
theorem dX6_line_19 : decode cX6_line 19 = .ok (.bipush 8, 2) := by decide +kernel
theorem dX6_line_21 : decode cX6_line 21 = .ok (.if_icmp .ne 7, 3) := by decide +kernel
theorem dX6_line_24 : decode cX6_line 24 = .ok (.iconst 2, 1) := by decide +kernel
theorem dX6_line_25 : decode cX6_line 25 = .ok (.goto 4, 3) := by decide +kernel
theorem dX6_line_28 : decode cX6_line 28 = .ok (.iconst 0, 1) := by decide +kernel
theorem dX6_line_29 : decode cX6_line 29 = .ok (.putfield 74, 3) := by decide +kernel
theorem dX6_line_32 : decode cX6_line 32 = .ok (.aload_n 0, 1) := by decide +kernel
theorem dX6_line_33 : decode cX6_line 33 = .ok (.getfield 74, 3) := by decide +kernel
theorem dX6_line_36 : decode cX6_line 36 = .ok (.ifCond .le 5, 3) := by decide +kernel
theorem dX6_line_39 : decode cX6_line 39 = .ok (.iconst 0, 1) := by decide +kernel
theorem dX6_line_40 : decode cX6_line 40 = .ok (.ireturn, 1) := by decide +kernel
theorem dX6_line_41 : decode cX6_line 41 = .ok (.aload_n 0, 1) := by decide +kernel
theorem dX6_line_42 : decode cX6_line 42 = .ok (.getfield 25, 3) := by decide +kernel
theorem dX6_line_45 : decode cX6_line 45 = .ok (.aload_n 0, 1) := by decide +kernel
theorem dX6_line_46 : decode cX6_line 46 = .ok (.getfield 91, 3) := by decide +kernel
theorem dX6_line_49 : decode cX6_line 49 = .ok (.iload_n 1, 1) := by decide +kernel
theorem dX6_line_50 : decode cX6_line 50 = .ok (.iastore, 1) := by decide +kernel
theorem dX6_line_51 : decode cX6_line 51 = .ok (.aload_n 0, 1) := by decide +kernel
theorem dX6_line_52 : decode cX6_line 52 = .ok (.dup, 1) := by decide +kernel
theorem dX6_line_53 : decode cX6_line 53 = .ok (.getfield 91, 3) := by decide +kernel
theorem dX6_line_56 : decode cX6_line 56 = .ok (.iconst 1, 1) := by decide +kernel
theorem dX6_line_57 : decode cX6_line 57 = .ok (.iadd, 1) := by decide +kernel
theorem dX6_line_58 : decode cX6_line 58 = .ok (.putfield 91, 3) := by decide +kernel
theorem dX6_line_61 : decode cX6_line 61 = .ok (.aload_n 0, 1) := by decide +kernel
theorem dX6_line_62 : decode cX6_line 62 = .ok (.getfield 91, 3) := by decide +kernel
theorem dX6_line_65 : decode cX6_line 65 = .ok (.ireturn, 1) := by decide +kernel
theorem dX6_endsPage_0 : decode cX6_endsPage 0 = .ok (.aload_n 0, 1) := by decide +kernel
theorem dX6_endsPage_1 : decode cX6_endsPage 1 = .ok (.getfield 94, 3) := by decide +kernel
theorem dX6_endsPage_4 : decode cX6_endsPage 4 = .ok (.aload_n 0, 1) := by decide +kernel
theorem dX6_endsPage_5 : decode cX6_endsPage 5 = .ok (.getfield 97, 3) := by decide +kernel
theorem dX6_endsPage_8 : decode cX6_endsPage 8 = .ok (.iadd, 1) := by decide +kernel
theorem dX6_endsPage_9 : decode cX6_endsPage 9 = .ok (.istore_n 1, 1) := by decide +kernel
theorem dX6_endsPage_10 : decode cX6_endsPage 10 = .ok (.aload_n 0, 1) := by decide +kernel
theorem dX6_endsPage_11 : decode cX6_endsPage 11 = .ok (.getfield 19, 3) := by decide +kernel
theorem dX6_endsPage_14 : decode cX6_endsPage 14 = .ok (.iload_n 1, 1) := by decide +kernel
theorem dX6_endsPage_15 : decode cX6_endsPage 15 = .ok (.aload_n 0, 1) := by decide +kernel
theorem dX6_endsPage_16 : decode cX6_endsPage 16 = .ok (.getfield 91, 3) := by decide +kernel
theorem dX6_endsPage_19 : decode cX6_endsPage 19 = .ok (.iastore, 1) := by decide +kernel
theorem dX6_endsPage_20 : decode cX6_endsPage 20 = .ok (.iconst 0, 1) := by decide +kernel
theorem dX6_endsPage_21 : decode cX6_endsPage 21 = .ok (.istore_n 2, 1) := by decide +kernel
theorem dX6_endsPage_22 : decode cX6_endsPage 22 = .ok (.iload_n 2, 1) := by decide +kernel
theorem dX6_endsPage_23 : decode cX6_endsPage 23 = .ok (.aload_n 0, 1) := by decide +kernel
theorem dX6_endsPage_24 : decode cX6_endsPage 24 = .ok (.getfield 91, 3) := by decide +kernel
theorem dX6_endsPage_27 : decode cX6_endsPage 27 = .ok (.if_icmp .ge 26, 3) := by decide +kernel
theorem dX6_endsPage_30 : decode cX6_endsPage 30 = .ok (.aload_n 0, 1) := by decide +kernel
theorem dX6_endsPage_31 : decode cX6_endsPage 31 = .ok (.getfield 22, 3) := by decide +kernel
theorem dX6_endsPage_34 : decode cX6_endsPage 34 = .ok (.bipush 8, 2) := by decide +kernel
theorem dX6_endsPage_36 : decode cX6_endsPage 36 = .ok (.iload_n 1, 1) := by decide +kernel
theorem dX6_endsPage_37 : decode cX6_endsPage 37 = .ok (.imul, 1) := by decide +kernel
theorem dX6_endsPage_38 : decode cX6_endsPage 38 = .ok (.iload_n 2, 1) := by decide +kernel
theorem dX6_endsPage_39 : decode cX6_endsPage 39 = .ok (.iadd, 1) := by decide +kernel
theorem dX6_endsPage_40 : decode cX6_endsPage 40 = .ok (.aload_n 0, 1) := by decide +kernel
theorem dX6_endsPage_41 : decode cX6_endsPage 41 = .ok (.getfield 25, 3) := by decide +kernel
theorem dX6_endsPage_44 : decode cX6_endsPage 44 = .ok (.iload_n 2, 1) := by decide +kernel
theorem dX6_endsPage_45 : decode cX6_endsPage 45 = .ok (.iaload, 1) := by decide +kernel
theorem dX6_endsPage_46 : decode cX6_endsPage 46 = .ok (.iastore, 1) := by decide +kernel
theorem dX6_endsPage_47 : decode cX6_endsPage 47 = .ok (.iinc 2 1, 3) := by decide +kernel
theorem dX6_endsPage_50 : decode cX6_endsPage 50 = .ok (.goto (-28), 3) := by decide +kernel
theorem dX6_endsPage_53 : decode cX6_endsPage 53 = .ok (.aload_n 0, 1) := by decide +kernel
theorem dX6_endsPage_54 : decode cX6_endsPage 54 = .ok (.getfield 28, 3) := by decide +kernel
theorem dX6_endsPage_57 : decode cX6_endsPage 57 = .ok (.iload_n 1, 1) := by decide +kernel
theorem dX6_endsPage_58 : decode cX6_endsPage 58 = .ok (.iconst 1, 1) := by decide +kernel
theorem dX6_endsPage_59 : decode cX6_endsPage 59 = .ok (.iastore, 1) := by decide +kernel
theorem dX6_endsPage_60 : decode cX6_endsPage 60 = .ok (.aload_n 0, 1) := by decide +kernel
theorem dX6_endsPage_61 : decode cX6_endsPage 61 = .ok (.iconst 0, 1) := by decide +kernel
theorem dX6_endsPage_62 : decode cX6_endsPage 62 = .ok (.putfield 91, 3) := by decide +kernel
theorem dX6_endsPage_65 : decode cX6_endsPage 65 = .ok (.aload_n 0, 1) := by decide +kernel
theorem dX6_endsPage_66 : decode cX6_endsPage 66 = .ok (.dup, 1) := by decide +kernel
theorem dX6_endsPage_67 : decode cX6_endsPage 67 = .ok (.getfield 97, 3) := by decide +kernel
theorem dX6_endsPage_70 : decode cX6_endsPage 70 = .ok (.iconst 1, 1) := by decide +kernel
theorem dX6_endsPage_71 : decode cX6_endsPage 71 = .ok (.iadd, 1) := by decide +kernel
theorem dX6_endsPage_72 : decode cX6_endsPage 72 = .ok (.putfield 97, 3) := by decide +kernel
theorem dX6_endsPage_75 : decode cX6_endsPage 75 = .ok (.return_, 1) := by decide +kernel
theorem dX6_feed_0 : decode cX6_feed 0 = .ok (.aload_n 0, 1) := by decide +kernel
theorem dX6_feed_1 : decode cX6_feed 1 = .ok (.aload_n 0, 1) := by decide +kernel
theorem dX6_feed_2 : decode cX6_feed 2 = .ok (.getfield 94, 3) := by decide +kernel
theorem dX6_feed_5 : decode cX6_feed 5 = .ok (.aload_n 0, 1) := by decide +kernel
theorem dX6_feed_6 : decode cX6_feed 6 = .ok (.getfield 97, 3) := by decide +kernel
theorem dX6_feed_9 : decode cX6_feed 9 = .ok (.iadd, 1) := by decide +kernel
theorem dX6_feed_10 : decode cX6_feed 10 = .ok (.iconst 1, 1) := by decide +kernel
theorem dX6_feed_11 : decode cX6_feed 11 = .ok (.iadd, 1) := by decide +kernel
theorem dX6_feed_12 : decode cX6_feed 12 = .ok (.bipush 120, 2) := by decide +kernel
theorem dX6_feed_14 : decode cX6_feed 14 = .ok (.if_icmp .le 7, 3) := by decide +kernel
theorem dX6_feed_17 : decode cX6_feed 17 = .ok (.iconst 1, 1) := by decide +kernel
theorem dX6_feed_18 : decode cX6_feed 18 = .ok (.goto 4, 3) := by decide +kernel
theorem dX6_feed_21 : decode cX6_feed 21 = .ok (.iconst 0, 1) := by decide +kernel
theorem dX6_feed_22 : decode cX6_feed 22 = .ok (.putfield 74, 3) := by decide +kernel
theorem dX6_feed_25 : decode cX6_feed 25 = .ok (.aload_n 0, 1) := by decide +kernel
theorem dX6_feed_26 : decode cX6_feed 26 = .ok (.getfield 74, 3) := by decide +kernel
theorem dX6_feed_29 : decode cX6_feed 29 = .ok (.ifCond .le 5, 3) := by decide +kernel
theorem dX6_feed_32 : decode cX6_feed 32 = .ok (.iconst 0, 1) := by decide +kernel
theorem dX6_feed_33 : decode cX6_feed 33 = .ok (.ireturn, 1) := by decide +kernel
theorem dX6_feed_34 : decode cX6_feed 34 = .ok (.aload_n 0, 1) := by decide +kernel
theorem dX6_feed_35 : decode cX6_feed 35 = .ok (.invokevirtual 100, 3) := by decide +kernel
theorem dX6_feed_38 : decode cX6_feed 38 = .ok (.aload_n 0, 1) := by decide +kernel
theorem dX6_feed_39 : decode cX6_feed 39 = .ok (.getfield 97, 3) := by decide +kernel
theorem dX6_feed_42 : decode cX6_feed 42 = .ok (.ireturn, 1) := by decide +kernel
theorem dX6_lineOf_0 : decode cX6_lineOf 0 = .ok (.iload_n 2, 1) := by decide +kernel
theorem dX6_lineOf_1 : decode cX6_lineOf 1 = .ok (.aload_n 0, 1) := by decide +kernel
theorem dX6_lineOf_2 : decode cX6_lineOf 2 = .ok (.getfield 19, 3) := by decide +kernel
theorem dX6_lineOf_5 : decode cX6_lineOf 5 = .ok (.iload_n 1, 1) := by decide +kernel
theorem dX6_lineOf_6 : decode cX6_lineOf 6 = .ok (.iaload, 1) := by decide +kernel
theorem dX6_lineOf_7 : decode cX6_lineOf 7 = .ok (.if_icmp .ge 17, 3) := by decide +kernel
theorem dX6_lineOf_10 : decode cX6_lineOf 10 = .ok (.aload_n 0, 1) := by decide +kernel
theorem dX6_lineOf_11 : decode cX6_lineOf 11 = .ok (.getfield 22, 3) := by decide +kernel
theorem dX6_lineOf_14 : decode cX6_lineOf 14 = .ok (.bipush 8, 2) := by decide +kernel
theorem dX6_lineOf_16 : decode cX6_lineOf 16 = .ok (.iload_n 1, 1) := by decide +kernel
theorem dX6_lineOf_17 : decode cX6_lineOf 17 = .ok (.imul, 1) := by decide +kernel
theorem dX6_lineOf_18 : decode cX6_lineOf 18 = .ok (.iload_n 2, 1) := by decide +kernel
theorem dX6_lineOf_19 : decode cX6_lineOf 19 = .ok (.iadd, 1) := by decide +kernel
theorem dX6_lineOf_20 : decode cX6_lineOf 20 = .ok (.iaload, 1) := by decide +kernel
theorem dX6_lineOf_21 : decode cX6_lineOf 21 = .ok (.goto 4, 3) := by decide +kernel
theorem dX6_lineOf_24 : decode cX6_lineOf 24 = .ok (.iconst (-1), 1) := by decide +kernel
theorem dX6_lineOf_25 : decode cX6_lineOf 25 = .ok (.ireturn, 1) := by decide +kernel
theorem dX6_begins_0 : decode cX6_begins 0 = .ok (.aload_n 0, 1) := by decide +kernel
theorem dX6_begins_1 : decode cX6_begins 1 = .ok (.iload_n 1, 1) := by decide +kernel
theorem dX6_begins_2 : decode cX6_begins 2 = .ok (.iload_n 3, 1) := by decide +kernel
theorem dX6_begins_3 : decode cX6_begins 3 = .ok (.invokevirtual 103, 3) := by decide +kernel
theorem dX6_begins_6 : decode cX6_begins 6 = .ok (.istore 4, 2) := by decide +kernel
theorem dX6_begins_8 : decode cX6_begins 8 = .ok (.aload_n 0, 1) := by decide +kernel
theorem dX6_begins_9 : decode cX6_begins 9 = .ok (.getfield 40, 3) := by decide +kernel
theorem dX6_begins_12 : decode cX6_begins 12 = .ok (.aload_n 0, 1) := by decide +kernel
theorem dX6_begins_13 : decode cX6_begins 13 = .ok (.getfield 107, 3) := by decide +kernel
theorem dX6_begins_16 : decode cX6_begins 16 = .ok (.iload_n 1, 1) := by decide +kernel
theorem dX6_begins_17 : decode cX6_begins 17 = .ok (.iastore, 1) := by decide +kernel
theorem dX6_begins_18 : decode cX6_begins 18 = .ok (.aload_n 0, 1) := by decide +kernel
theorem dX6_begins_19 : decode cX6_begins 19 = .ok (.getfield 43, 3) := by decide +kernel
theorem dX6_begins_22 : decode cX6_begins 22 = .ok (.aload_n 0, 1) := by decide +kernel
theorem dX6_begins_23 : decode cX6_begins 23 = .ok (.getfield 107, 3) := by decide +kernel
theorem dX6_begins_26 : decode cX6_begins 26 = .ok (.iconst 0, 1) := by decide +kernel
theorem dX6_begins_27 : decode cX6_begins 27 = .ok (.iastore, 1) := by decide +kernel
theorem dX6_begins_28 : decode cX6_begins 28 = .ok (.aload_n 0, 1) := by decide +kernel
theorem dX6_begins_29 : decode cX6_begins 29 = .ok (.getfield 46, 3) := by decide +kernel
theorem dX6_begins_32 : decode cX6_begins 32 = .ok (.aload_n 0, 1) := by decide +kernel
theorem dX6_begins_33 : decode cX6_begins 33 = .ok (.getfield 107, 3) := by decide +kernel
theorem dX6_begins_36 : decode cX6_begins 36 = .ok (.iload_n 2, 1) := by decide +kernel
theorem dX6_begins_37 : decode cX6_begins 37 = .ok (.iastore, 1) := by decide +kernel
theorem dX6_begins_38 : decode cX6_begins 38 = .ok (.aload_n 0, 1) := by decide +kernel
theorem dX6_begins_39 : decode cX6_begins 39 = .ok (.getfield 49, 3) := by decide +kernel
theorem dX6_begins_42 : decode cX6_begins 42 = .ok (.aload_n 0, 1) := by decide +kernel
theorem dX6_begins_43 : decode cX6_begins 43 = .ok (.getfield 107, 3) := by decide +kernel
theorem dX6_begins_46 : decode cX6_begins 46 = .ok (.iload 4, 2) := by decide +kernel
theorem dX6_begins_48 : decode cX6_begins 48 = .ok (.iconst (-1), 1) := by decide +kernel
theorem dX6_begins_49 : decode cX6_begins 49 = .ok (.if_icmp .ne 7, 3) := by decide +kernel
theorem dX6_begins_52 : decode cX6_begins 52 = .ok (.iconst 0, 1) := by decide +kernel
theorem dX6_begins_53 : decode cX6_begins 53 = .ok (.goto 7, 3) := by decide +kernel
theorem dX6_begins_56 : decode cX6_begins 56 = .ok (.iload 4, 2) := by decide +kernel
theorem dX6_begins_58 : decode cX6_begins 58 = .ok (.iconst 4, 1) := by decide +kernel
theorem dX6_begins_59 : decode cX6_begins 59 = .ok (.irem, 1) := by decide +kernel
theorem dX6_begins_60 : decode cX6_begins 60 = .ok (.iastore, 1) := by decide +kernel
theorem dX6_begins_61 : decode cX6_begins 61 = .ok (.aload_n 0, 1) := by decide +kernel
theorem dX6_begins_62 : decode cX6_begins 62 = .ok (.getfield 52, 3) := by decide +kernel
theorem dX6_begins_65 : decode cX6_begins 65 = .ok (.aload_n 0, 1) := by decide +kernel
theorem dX6_begins_66 : decode cX6_begins 66 = .ok (.getfield 107, 3) := by decide +kernel
theorem dX6_begins_69 : decode cX6_begins 69 = .ok (.aload_n 0, 1) := by decide +kernel
theorem dX6_begins_70 : decode cX6_begins 70 = .ok (.getfield 85, 3) := by decide +kernel
theorem dX6_begins_73 : decode cX6_begins 73 = .ok (.iastore, 1) := by decide +kernel
theorem dX6_begins_74 : decode cX6_begins 74 = .ok (.aload_n 0, 1) := by decide +kernel
theorem dX6_begins_75 : decode cX6_begins 75 = .ok (.getfield 55, 3) := by decide +kernel
theorem dX6_begins_78 : decode cX6_begins 78 = .ok (.aload_n 0, 1) := by decide +kernel
theorem dX6_begins_79 : decode cX6_begins 79 = .ok (.getfield 107, 3) := by decide +kernel
theorem dX6_begins_82 : decode cX6_begins 82 = .ok (.iconst 0, 1) := by decide +kernel
theorem dX6_begins_83 : decode cX6_begins 83 = .ok (.bastore, 1) := by decide +kernel
theorem dX6_begins_84 : decode cX6_begins 84 = .ok (.aload_n 0, 1) := by decide +kernel
theorem dX6_begins_85 : decode cX6_begins 85 = .ok (.dup, 1) := by decide +kernel
theorem dX6_begins_86 : decode cX6_begins 86 = .ok (.getfield 107, 3) := by decide +kernel
theorem dX6_begins_89 : decode cX6_begins 89 = .ok (.iconst 1, 1) := by decide +kernel
theorem dX6_begins_90 : decode cX6_begins 90 = .ok (.iadd, 1) := by decide +kernel
theorem dX6_begins_91 : decode cX6_begins 91 = .ok (.putfield 107, 3) := by decide +kernel
theorem dX6_begins_94 : decode cX6_begins 94 = .ok (.return_, 1) := by decide +kernel
theorem dX6_putsTogether_0 : decode cX6_putsTogether 0 = .ok (.aload_n 0, 1) := by decide +kernel
theorem dX6_putsTogether_1 : decode cX6_putsTogether 1 = .ok (.invokevirtual 110, 3) := by decide +kernel
theorem dX6_putsTogether_4 : decode cX6_putsTogether 4 = .ok (.istore_n 1, 1) := by decide +kernel
theorem dX6_putsTogether_5 : decode cX6_putsTogether 5 = .ok (.iload_n 1, 1) := by decide +kernel
theorem dX6_putsTogether_6 : decode cX6_putsTogether 6 = .ok (.iconst (-1), 1) := by decide +kernel
theorem dX6_putsTogether_7 : decode cX6_putsTogether 7 = .ok (.if_icmp .ne 7, 3) := by decide +kernel
theorem dX6_putsTogether_10 : decode cX6_putsTogether 10 = .ok (.iconst 0, 1) := by decide +kernel
theorem dX6_putsTogether_11 : decode cX6_putsTogether 11 = .ok (.goto 9, 3) := by decide +kernel
theorem dX6_putsTogether_14 : decode cX6_putsTogether 14 = .ok (.aload_n 0, 1) := by decide +kernel
theorem dX6_putsTogether_15 : decode cX6_putsTogether 15 = .ok (.getfield 13, 3) := by decide +kernel
theorem dX6_putsTogether_18 : decode cX6_putsTogether 18 = .ok (.iload_n 1, 1) := by decide +kernel
theorem dX6_putsTogether_19 : decode cX6_putsTogether 19 = .ok (.iaload, 1) := by decide +kernel
theorem dX6_putsTogether_20 : decode cX6_putsTogether 20 = .ok (.istore_n 2, 1) := by decide +kernel
theorem dX6_putsTogether_21 : decode cX6_putsTogether 21 = .ok (.iload_n 1, 1) := by decide +kernel
theorem dX6_putsTogether_22 : decode cX6_putsTogether 22 = .ok (.iconst (-1), 1) := by decide +kernel
theorem dX6_putsTogether_23 : decode cX6_putsTogether 23 = .ok (.if_icmp .ne 7, 3) := by decide +kernel
theorem dX6_putsTogether_26 : decode cX6_putsTogether 26 = .ok (.iconst 1, 1) := by decide +kernel
theorem dX6_putsTogether_27 : decode cX6_putsTogether 27 = .ok (.goto 9, 3) := by decide +kernel
theorem dX6_putsTogether_30 : decode cX6_putsTogether 30 = .ok (.aload_n 0, 1) := by decide +kernel
theorem dX6_putsTogether_31 : decode cX6_putsTogether 31 = .ok (.getfield 16, 3) := by decide +kernel
theorem dX6_putsTogether_34 : decode cX6_putsTogether 34 = .ok (.iload_n 1, 1) := by decide +kernel
theorem dX6_putsTogether_35 : decode cX6_putsTogether 35 = .ok (.iaload, 1) := by decide +kernel
theorem dX6_putsTogether_36 : decode cX6_putsTogether 36 = .ok (.istore_n 3, 1) := by decide +kernel
theorem dX6_putsTogether_37 : decode cX6_putsTogether 37 = .ok (.aload_n 0, 1) := by decide +kernel
theorem dX6_putsTogether_38 : decode cX6_putsTogether 38 = .ok (.getfield 94, 3) := by decide +kernel
theorem dX6_putsTogether_41 : decode cX6_putsTogether 41 = .ok (.istore 4, 2) := by decide +kernel
theorem dX6_putsTogether_43 : decode cX6_putsTogether 43 = .ok (.iload 4, 2) := by decide +kernel
theorem dX6_putsTogether_45 : decode cX6_putsTogether 45 = .ok (.aload_n 0, 1) := by decide +kernel
theorem dX6_putsTogether_46 : decode cX6_putsTogether 46 = .ok (.getfield 94, 3) := by decide +kernel
theorem dX6_putsTogether_49 : decode cX6_putsTogether 49 = .ok (.aload_n 0, 1) := by decide +kernel
theorem dX6_putsTogether_50 : decode cX6_putsTogether 50 = .ok (.getfield 97, 3) := by decide +kernel
theorem dX6_putsTogether_53 : decode cX6_putsTogether 53 = .ok (.iadd, 1) := by decide +kernel
theorem dX6_putsTogether_54 : decode cX6_putsTogether 54 = .ok (.if_icmp .ge 73, 3) := by decide +kernel
theorem dX6_putsTogether_57 : decode cX6_putsTogether 57 = .ok (.aload_n 0, 1) := by decide +kernel
theorem dX6_putsTogether_58 : decode cX6_putsTogether 58 = .ok (.iload 4, 2) := by decide +kernel
theorem dX6_putsTogether_60 : decode cX6_putsTogether 60 = .ok (.iload_n 2, 1) := by decide +kernel
theorem dX6_putsTogether_61 : decode cX6_putsTogether 61 = .ok (.invokevirtual 103, 3) := by decide +kernel
theorem dX6_putsTogether_64 : decode cX6_putsTogether 64 = .ok (.istore 5, 2) := by decide +kernel
theorem dX6_putsTogether_66 : decode cX6_putsTogether 66 = .ok (.iload 4, 2) := by decide +kernel
theorem dX6_putsTogether_68 : decode cX6_putsTogether 68 = .ok (.aload_n 0, 1) := by decide +kernel
theorem dX6_putsTogether_69 : decode cX6_putsTogether 69 = .ok (.getfield 94, 3) := by decide +kernel
theorem dX6_putsTogether_72 : decode cX6_putsTogether 72 = .ok (.if_icmp .eq 25, 3) := by decide +kernel
theorem dX6_putsTogether_75 : decode cX6_putsTogether 75 = .ok (.iload 5, 2) := by decide +kernel
theorem dX6_putsTogether_77 : decode cX6_putsTogether 77 = .ok (.iconst (-1), 1) := by decide +kernel
theorem dX6_putsTogether_78 : decode cX6_putsTogether 78 = .ok (.if_icmp .eq 28, 3) := by decide +kernel
theorem dX6_putsTogether_81 : decode cX6_putsTogether 81 = .ok (.aload_n 0, 1) := by decide +kernel
theorem dX6_putsTogether_82 : decode cX6_putsTogether 82 = .ok (.getfield 46, 3) := by decide +kernel
theorem dX6_putsTogether_85 : decode cX6_putsTogether 85 = .ok (.aload_n 0, 1) := by decide +kernel
theorem dX6_putsTogether_86 : decode cX6_putsTogether 86 = .ok (.getfield 107, 3) := by decide +kernel
theorem dX6_putsTogether_89 : decode cX6_putsTogether 89 = .ok (.iconst 1, 1) := by decide +kernel
theorem dX6_putsTogether_90 : decode cX6_putsTogether 90 = .ok (.isub, 1) := by decide +kernel
theorem dX6_putsTogether_91 : decode cX6_putsTogether 91 = .ok (.iaload, 1) := by decide +kernel
theorem dX6_putsTogether_92 : decode cX6_putsTogether 92 = .ok (.iload 5, 2) := by decide +kernel
theorem dX6_putsTogether_94 : decode cX6_putsTogether 94 = .ok (.if_icmp .eq 12, 3) := by decide +kernel
theorem dX6_putsTogether_97 : decode cX6_putsTogether 97 = .ok (.aload_n 0, 1) := by decide +kernel
theorem dX6_putsTogether_98 : decode cX6_putsTogether 98 = .ok (.iload 4, 2) := by decide +kernel
theorem dX6_putsTogether_100 : decode cX6_putsTogether 100 = .ok (.iload 5, 2) := by decide +kernel
theorem dX6_putsTogether_102 : decode cX6_putsTogether 102 = .ok (.iload_n 3, 1) := by decide +kernel
theorem dX6_putsTogether_103 : decode cX6_putsTogether 103 = .ok (.invokevirtual 114, 3) := by decide +kernel
theorem dX6_putsTogether_106 : decode cX6_putsTogether 106 = .ok (.aload_n 0, 1) := by decide +kernel
theorem dX6_putsTogether_107 : decode cX6_putsTogether 107 = .ok (.getfield 43, 3) := by decide +kernel
theorem dX6_putsTogether_110 : decode cX6_putsTogether 110 = .ok (.aload_n 0, 1) := by decide +kernel
theorem dX6_putsTogether_111 : decode cX6_putsTogether 111 = .ok (.getfield 107, 3) := by decide +kernel
theorem dX6_putsTogether_114 : decode cX6_putsTogether 114 = .ok (.iconst 1, 1) := by decide +kernel
theorem dX6_putsTogether_115 : decode cX6_putsTogether 115 = .ok (.isub, 1) := by decide +kernel
theorem dX6_putsTogether_116 : decode cX6_putsTogether 116 = .ok (.dup2, 1) := by decide +kernel
theorem dX6_putsTogether_117 : decode cX6_putsTogether 117 = .ok (.iaload, 1) := by decide +kernel
theorem dX6_putsTogether_118 : decode cX6_putsTogether 118 = .ok (.iconst 1, 1) := by decide +kernel
theorem dX6_putsTogether_119 : decode cX6_putsTogether 119 = .ok (.iadd, 1) := by decide +kernel
theorem dX6_putsTogether_120 : decode cX6_putsTogether 120 = .ok (.iastore, 1) := by decide +kernel
theorem dX6_putsTogether_121 : decode cX6_putsTogether 121 = .ok (.iinc 4 1, 3) := by decide +kernel
theorem dX6_putsTogether_124 : decode cX6_putsTogether 124 = .ok (.goto (-81), 3) := by decide +kernel
theorem dX6_putsTogether_127 : decode cX6_putsTogether 127 = .ok (.return_, 1) := by decide +kernel
theorem dX6_end_0 : decode cX6_end 0 = .ok (.aload_n 0, 1) := by decide +kernel
theorem dX6_end_1 : decode cX6_end 1 = .ok (.getfield 97, 3) := by decide +kernel
theorem dX6_end_4 : decode cX6_end 4 = .ok (.aload_n 0, 1) := by decide +kernel
theorem dX6_end_5 : decode cX6_end 5 = .ok (.getfield 91, 3) := by decide +kernel
theorem dX6_end_8 : decode cX6_end 8 = .ok (.ifCond .le 7, 3) := by decide +kernel
theorem dX6_end_11 : decode cX6_end 11 = .ok (.iconst 1, 1) := by decide +kernel
theorem dX6_end_12 : decode cX6_end 12 = .ok (.goto 4, 3) := by decide +kernel
theorem dX6_end_15 : decode cX6_end 15 = .ok (.iconst 0, 1) := by decide +kernel
theorem dX6_end_16 : decode cX6_end 16 = .ok (.iadd, 1) := by decide +kernel
theorem dX6_end_17 : decode cX6_end 17 = .ok (.istore_n 1, 1) := by decide +kernel
theorem dX6_end_18 : decode cX6_end 18 = .ok (.aload_n 0, 1) := by decide +kernel
theorem dX6_end_19 : decode cX6_end 19 = .ok (.iload_n 1, 1) := by decide +kernel
theorem dX6_end_20 : decode cX6_end 20 = .ok (.ifCond .eq 23, 3) := by decide +kernel
theorem dX6_end_23 : decode cX6_end 23 = .ok (.aload_n 0, 1) := by decide +kernel
theorem dX6_end_24 : decode cX6_end 24 = .ok (.getfield 78, 3) := by decide +kernel
theorem dX6_end_27 : decode cX6_end 27 = .ok (.bipush 15, 2) := by decide +kernel
theorem dX6_end_29 : decode cX6_end 29 = .ok (.if_icmp .eq 14, 3) := by decide +kernel
theorem dX6_end_32 : decode cX6_end 32 = .ok (.aload_n 0, 1) := by decide +kernel
theorem dX6_end_33 : decode cX6_end 33 = .ok (.getfield 94, 3) := by decide +kernel
theorem dX6_end_36 : decode cX6_end 36 = .ok (.iload_n 1, 1) := by decide +kernel
theorem dX6_end_37 : decode cX6_end 37 = .ok (.iadd, 1) := by decide +kernel
theorem dX6_end_38 : decode cX6_end 38 = .ok (.bipush 120, 2) := by decide +kernel
theorem dX6_end_40 : decode cX6_end 40 = .ok (.if_icmp .le 7, 3) := by decide +kernel
theorem dX6_end_43 : decode cX6_end 43 = .ok (.iconst 1, 1) := by decide +kernel
theorem dX6_end_44 : decode cX6_end 44 = .ok (.goto 4, 3) := by decide +kernel
theorem dX6_end_47 : decode cX6_end 47 = .ok (.iconst 0, 1) := by decide +kernel
theorem dX6_end_48 : decode cX6_end 48 = .ok (.putfield 74, 3) := by decide +kernel
theorem dX6_end_51 : decode cX6_end 51 = .ok (.aload_n 0, 1) := by decide +kernel
theorem dX6_end_52 : decode cX6_end 52 = .ok (.getfield 74, 3) := by decide +kernel
theorem dX6_end_55 : decode cX6_end 55 = .ok (.ifCond .le 5, 3) := by decide +kernel
theorem dX6_end_58 : decode cX6_end 58 = .ok (.iconst 0, 1) := by decide +kernel
theorem dX6_end_59 : decode cX6_end 59 = .ok (.ireturn, 1) := by decide +kernel
theorem dX6_end_60 : decode cX6_end 60 = .ok (.aload_n 0, 1) := by decide +kernel
theorem dX6_end_61 : decode cX6_end 61 = .ok (.getfield 91, 3) := by decide +kernel
theorem dX6_end_64 : decode cX6_end 64 = .ok (.ifCond .le 7, 3) := by decide +kernel
theorem dX6_end_67 : decode cX6_end 67 = .ok (.aload_n 0, 1) := by decide +kernel
theorem dX6_end_68 : decode cX6_end 68 = .ok (.invokevirtual 100, 3) := by decide +kernel
theorem dX6_end_71 : decode cX6_end 71 = .ok (.aload_n 0, 1) := by decide +kernel
theorem dX6_end_72 : decode cX6_end 72 = .ok (.invokevirtual 118, 3) := by decide +kernel
theorem dX6_end_75 : decode cX6_end 75 = .ok (.aload_n 0, 1) := by decide +kernel
theorem dX6_end_76 : decode cX6_end 76 = .ok (.getfield 31, 3) := by decide +kernel
theorem dX6_end_79 : decode cX6_end 79 = .ok (.aload_n 0, 1) := by decide +kernel
theorem dX6_end_80 : decode cX6_end 80 = .ok (.getfield 78, 3) := by decide +kernel
theorem dX6_end_83 : decode cX6_end 83 = .ok (.aload_n 0, 1) := by decide +kernel
theorem dX6_end_84 : decode cX6_end 84 = .ok (.getfield 85, 3) := by decide +kernel
theorem dX6_end_87 : decode cX6_end 87 = .ok (.iastore, 1) := by decide +kernel
theorem dX6_end_88 : decode cX6_end 88 = .ok (.aload_n 0, 1) := by decide +kernel
theorem dX6_end_89 : decode cX6_end 89 = .ok (.getfield 34, 3) := by decide +kernel
theorem dX6_end_92 : decode cX6_end 92 = .ok (.aload_n 0, 1) := by decide +kernel
theorem dX6_end_93 : decode cX6_end 93 = .ok (.getfield 78, 3) := by decide +kernel
theorem dX6_end_96 : decode cX6_end 96 = .ok (.aload_n 0, 1) := by decide +kernel
theorem dX6_end_97 : decode cX6_end 97 = .ok (.getfield 94, 3) := by decide +kernel
theorem dX6_end_100 : decode cX6_end 100 = .ok (.iastore, 1) := by decide +kernel
theorem dX6_end_101 : decode cX6_end 101 = .ok (.aload_n 0, 1) := by decide +kernel
theorem dX6_end_102 : decode cX6_end 102 = .ok (.getfield 37, 3) := by decide +kernel
theorem dX6_end_105 : decode cX6_end 105 = .ok (.aload_n 0, 1) := by decide +kernel
theorem dX6_end_106 : decode cX6_end 106 = .ok (.getfield 78, 3) := by decide +kernel
theorem dX6_end_109 : decode cX6_end 109 = .ok (.aload_n 0, 1) := by decide +kernel
theorem dX6_end_110 : decode cX6_end 110 = .ok (.getfield 97, 3) := by decide +kernel
theorem dX6_end_113 : decode cX6_end 113 = .ok (.iastore, 1) := by decide +kernel
theorem dX6_end_114 : decode cX6_end 114 = .ok (.aload_n 0, 1) := by decide +kernel
theorem dX6_end_115 : decode cX6_end 115 = .ok (.dup, 1) := by decide +kernel
theorem dX6_end_116 : decode cX6_end 116 = .ok (.getfield 94, 3) := by decide +kernel
theorem dX6_end_119 : decode cX6_end 119 = .ok (.aload_n 0, 1) := by decide +kernel
theorem dX6_end_120 : decode cX6_end 120 = .ok (.getfield 97, 3) := by decide +kernel
theorem dX6_end_123 : decode cX6_end 123 = .ok (.iadd, 1) := by decide +kernel
theorem dX6_end_124 : decode cX6_end 124 = .ok (.putfield 94, 3) := by decide +kernel
theorem dX6_end_127 : decode cX6_end 127 = .ok (.aload_n 0, 1) := by decide +kernel
theorem dX6_end_128 : decode cX6_end 128 = .ok (.iconst 0, 1) := by decide +kernel
theorem dX6_end_129 : decode cX6_end 129 = .ok (.putfield 97, 3) := by decide +kernel
theorem dX6_end_132 : decode cX6_end 132 = .ok (.aload_n 0, 1) := by decide +kernel
theorem dX6_end_133 : decode cX6_end 133 = .ok (.dup, 1) := by decide +kernel
theorem dX6_end_134 : decode cX6_end 134 = .ok (.getfield 78, 3) := by decide +kernel
theorem dX6_end_137 : decode cX6_end 137 = .ok (.iconst 1, 1) := by decide +kernel
theorem dX6_end_138 : decode cX6_end 138 = .ok (.iadd, 1) := by decide +kernel
theorem dX6_end_139 : decode cX6_end 139 = .ok (.putfield 78, 3) := by decide +kernel
theorem dX6_end_142 : decode cX6_end 142 = .ok (.aload_n 0, 1) := by decide +kernel
theorem dX6_end_143 : decode cX6_end 143 = .ok (.getfield 78, 3) := by decide +kernel
theorem dX6_end_146 : decode cX6_end 146 = .ok (.iconst 1, 1) := by decide +kernel
theorem dX6_end_147 : decode cX6_end 147 = .ok (.isub, 1) := by decide +kernel
theorem dX6_end_148 : decode cX6_end 148 = .ok (.ireturn, 1) := by decide +kernel
theorem dX6_pages_0 : decode cX6_pages 0 = .ok (.aload_n 0, 1) := by decide +kernel
theorem dX6_pages_1 : decode cX6_pages 1 = .ok (.aload_n 0, 1) := by decide +kernel
theorem dX6_pages_2 : decode cX6_pages 2 = .ok (.iload_n 1, 1) := by decide +kernel
theorem dX6_pages_3 : decode cX6_pages 3 = .ok (.invokevirtual 121, 3) := by decide +kernel
theorem dX6_pages_6 : decode cX6_pages 6 = .ok (.ifCond .eq 7, 3) := by decide +kernel
theorem dX6_pages_9 : decode cX6_pages 9 = .ok (.iconst 0, 1) := by decide +kernel
theorem dX6_pages_10 : decode cX6_pages 10 = .ok (.goto 4, 3) := by decide +kernel
theorem dX6_pages_13 : decode cX6_pages 13 = .ok (.iconst 1, 1) := by decide +kernel
theorem dX6_pages_14 : decode cX6_pages 14 = .ok (.putfield 74, 3) := by decide +kernel
theorem dX6_pages_17 : decode cX6_pages 17 = .ok (.aload_n 0, 1) := by decide +kernel
theorem dX6_pages_18 : decode cX6_pages 18 = .ok (.getfield 74, 3) := by decide +kernel
theorem dX6_pages_21 : decode cX6_pages 21 = .ok (.ifCond .le 7, 3) := by decide +kernel
theorem dX6_pages_24 : decode cX6_pages 24 = .ok (.iconst 0, 1) := by decide +kernel
theorem dX6_pages_25 : decode cX6_pages 25 = .ok (.goto 9, 3) := by decide +kernel
theorem dX6_pages_28 : decode cX6_pages 28 = .ok (.aload_n 0, 1) := by decide +kernel
theorem dX6_pages_29 : decode cX6_pages 29 = .ok (.getfield 37, 3) := by decide +kernel
theorem dX6_pages_32 : decode cX6_pages 32 = .ok (.iload_n 1, 1) := by decide +kernel
theorem dX6_pages_33 : decode cX6_pages 33 = .ok (.iaload, 1) := by decide +kernel
theorem dX6_pages_34 : decode cX6_pages 34 = .ok (.ireturn, 1) := by decide +kernel
theorem dX6_areAlike_0 : decode cX6_areAlike 0 = .ok (.aload_n 0, 1) := by decide +kernel
theorem dX6_areAlike_1 : decode cX6_areAlike 1 = .ok (.getfield 31, 3) := by decide +kernel
theorem dX6_areAlike_4 : decode cX6_areAlike 4 = .ok (.iload_n 1, 1) := by decide +kernel
theorem dX6_areAlike_5 : decode cX6_areAlike 5 = .ok (.iaload, 1) := by decide +kernel
theorem dX6_areAlike_6 : decode cX6_areAlike 6 = .ok (.aload_n 0, 1) := by decide +kernel
theorem dX6_areAlike_7 : decode cX6_areAlike 7 = .ok (.getfield 31, 3) := by decide +kernel
theorem dX6_areAlike_10 : decode cX6_areAlike 10 = .ok (.iload_n 2, 1) := by decide +kernel
theorem dX6_areAlike_11 : decode cX6_areAlike 11 = .ok (.iaload, 1) := by decide +kernel
theorem dX6_areAlike_12 : decode cX6_areAlike 12 = .ok (.if_icmp .ne 22, 3) := by decide +kernel
theorem dX6_areAlike_15 : decode cX6_areAlike 15 = .ok (.aload_n 0, 1) := by decide +kernel
theorem dX6_areAlike_16 : decode cX6_areAlike 16 = .ok (.getfield 37, 3) := by decide +kernel
theorem dX6_areAlike_19 : decode cX6_areAlike 19 = .ok (.iload_n 1, 1) := by decide +kernel
theorem dX6_areAlike_20 : decode cX6_areAlike 20 = .ok (.iaload, 1) := by decide +kernel
theorem dX6_areAlike_21 : decode cX6_areAlike 21 = .ok (.aload_n 0, 1) := by decide +kernel
theorem dX6_areAlike_22 : decode cX6_areAlike 22 = .ok (.getfield 37, 3) := by decide +kernel
theorem dX6_areAlike_25 : decode cX6_areAlike 25 = .ok (.iload_n 2, 1) := by decide +kernel
theorem dX6_areAlike_26 : decode cX6_areAlike 26 = .ok (.iaload, 1) := by decide +kernel
theorem dX6_areAlike_27 : decode cX6_areAlike 27 = .ok (.if_icmp .ne 7, 3) := by decide +kernel
theorem dX6_areAlike_30 : decode cX6_areAlike 30 = .ok (.iconst 1, 1) := by decide +kernel
theorem dX6_areAlike_31 : decode cX6_areAlike 31 = .ok (.goto 4, 3) := by decide +kernel
theorem dX6_areAlike_34 : decode cX6_areAlike 34 = .ok (.iconst 0, 1) := by decide +kernel
theorem dX6_areAlike_35 : decode cX6_areAlike 35 = .ok (.istore_n 3, 1) := by decide +kernel
theorem dX6_areAlike_36 : decode cX6_areAlike 36 = .ok (.iconst 0, 1) := by decide +kernel
theorem dX6_areAlike_37 : decode cX6_areAlike 37 = .ok (.istore 4, 2) := by decide +kernel
theorem dX6_areAlike_39 : decode cX6_areAlike 39 = .ok (.iload 4, 2) := by decide +kernel
theorem dX6_areAlike_41 : decode cX6_areAlike 41 = .ok (.aload_n 0, 1) := by decide +kernel
theorem dX6_areAlike_42 : decode cX6_areAlike 42 = .ok (.getfield 37, 3) := by decide +kernel
theorem dX6_areAlike_45 : decode cX6_areAlike 45 = .ok (.iload_n 1, 1) := by decide +kernel
theorem dX6_areAlike_46 : decode cX6_areAlike 46 = .ok (.iaload, 1) := by decide +kernel
theorem dX6_areAlike_47 : decode cX6_areAlike 47 = .ok (.if_icmp .ge 108, 3) := by decide +kernel
theorem dX6_areAlike_50 : decode cX6_areAlike 50 = .ok (.iload_n 3, 1) := by decide +kernel
theorem dX6_areAlike_51 : decode cX6_areAlike 51 = .ok (.ifCond .eq 104, 3) := by decide +kernel
theorem dX6_areAlike_54 : decode cX6_areAlike 54 = .ok (.aload_n 0, 1) := by decide +kernel
theorem dX6_areAlike_55 : decode cX6_areAlike 55 = .ok (.getfield 34, 3) := by decide +kernel
theorem dX6_areAlike_58 : decode cX6_areAlike 58 = .ok (.iload_n 1, 1) := by decide +kernel
theorem dX6_areAlike_59 : decode cX6_areAlike 59 = .ok (.iaload, 1) := by decide +kernel
theorem dX6_areAlike_60 : decode cX6_areAlike 60 = .ok (.iload 4, 2) := by decide +kernel
theorem dX6_areAlike_62 : decode cX6_areAlike 62 = .ok (.iadd, 1) := by decide +kernel
theorem dX6_areAlike_63 : decode cX6_areAlike 63 = .ok (.istore 5, 2) := by decide +kernel
theorem dX6_areAlike_65 : decode cX6_areAlike 65 = .ok (.aload_n 0, 1) := by decide +kernel
theorem dX6_areAlike_66 : decode cX6_areAlike 66 = .ok (.getfield 34, 3) := by decide +kernel
theorem dX6_areAlike_69 : decode cX6_areAlike 69 = .ok (.iload_n 2, 1) := by decide +kernel
theorem dX6_areAlike_70 : decode cX6_areAlike 70 = .ok (.iaload, 1) := by decide +kernel
theorem dX6_areAlike_71 : decode cX6_areAlike 71 = .ok (.iload 4, 2) := by decide +kernel
theorem dX6_areAlike_73 : decode cX6_areAlike 73 = .ok (.iadd, 1) := by decide +kernel
theorem dX6_areAlike_74 : decode cX6_areAlike 74 = .ok (.istore 6, 2) := by decide +kernel
theorem dX6_areAlike_76 : decode cX6_areAlike 76 = .ok (.aload_n 0, 1) := by decide +kernel
theorem dX6_areAlike_77 : decode cX6_areAlike 77 = .ok (.getfield 19, 3) := by decide +kernel
theorem dX6_areAlike_80 : decode cX6_areAlike 80 = .ok (.iload 5, 2) := by decide +kernel
theorem dX6_areAlike_82 : decode cX6_areAlike 82 = .ok (.iaload, 1) := by decide +kernel
theorem dX6_areAlike_83 : decode cX6_areAlike 83 = .ok (.aload_n 0, 1) := by decide +kernel
theorem dX6_areAlike_84 : decode cX6_areAlike 84 = .ok (.getfield 19, 3) := by decide +kernel
theorem dX6_areAlike_87 : decode cX6_areAlike 87 = .ok (.iload 6, 2) := by decide +kernel
theorem dX6_areAlike_89 : decode cX6_areAlike 89 = .ok (.iaload, 1) := by decide +kernel
theorem dX6_areAlike_90 : decode cX6_areAlike 90 = .ok (.if_icmp .ne 7, 3) := by decide +kernel
theorem dX6_areAlike_93 : decode cX6_areAlike 93 = .ok (.iconst 1, 1) := by decide +kernel
theorem dX6_areAlike_94 : decode cX6_areAlike 94 = .ok (.goto 4, 3) := by decide +kernel
theorem dX6_areAlike_97 : decode cX6_areAlike 97 = .ok (.iconst 0, 1) := by decide +kernel
theorem dX6_areAlike_98 : decode cX6_areAlike 98 = .ok (.istore_n 3, 1) := by decide +kernel
theorem dX6_areAlike_99 : decode cX6_areAlike 99 = .ok (.iconst 0, 1) := by decide +kernel
theorem dX6_areAlike_100 : decode cX6_areAlike 100 = .ok (.istore 7, 2) := by decide +kernel
theorem dX6_areAlike_102 : decode cX6_areAlike 102 = .ok (.iload 7, 2) := by decide +kernel
theorem dX6_areAlike_104 : decode cX6_areAlike 104 = .ok (.aload_n 0, 1) := by decide +kernel
theorem dX6_areAlike_105 : decode cX6_areAlike 105 = .ok (.getfield 19, 3) := by decide +kernel
theorem dX6_areAlike_108 : decode cX6_areAlike 108 = .ok (.iload 5, 2) := by decide +kernel
theorem dX6_areAlike_110 : decode cX6_areAlike 110 = .ok (.iaload, 1) := by decide +kernel
theorem dX6_areAlike_111 : decode cX6_areAlike 111 = .ok (.if_icmp .ge 38, 3) := by decide +kernel
theorem dX6_areAlike_114 : decode cX6_areAlike 114 = .ok (.iload_n 3, 1) := by decide +kernel
theorem dX6_areAlike_115 : decode cX6_areAlike 115 = .ok (.ifCond .eq 34, 3) := by decide +kernel
theorem dX6_areAlike_118 : decode cX6_areAlike 118 = .ok (.aload_n 0, 1) := by decide +kernel
theorem dX6_areAlike_119 : decode cX6_areAlike 119 = .ok (.iload 5, 2) := by decide +kernel
theorem dX6_areAlike_121 : decode cX6_areAlike 121 = .ok (.iload 7, 2) := by decide +kernel
theorem dX6_areAlike_123 : decode cX6_areAlike 123 = .ok (.invokevirtual 103, 3) := by decide +kernel
theorem dX6_areAlike_126 : decode cX6_areAlike 126 = .ok (.aload_n 0, 1) := by decide +kernel
theorem dX6_areAlike_127 : decode cX6_areAlike 127 = .ok (.iload 6, 2) := by decide +kernel
theorem dX6_areAlike_129 : decode cX6_areAlike 129 = .ok (.iload 7, 2) := by decide +kernel
theorem dX6_areAlike_131 : decode cX6_areAlike 131 = .ok (.invokevirtual 103, 3) := by decide +kernel
theorem dX6_areAlike_134 : decode cX6_areAlike 134 = .ok (.if_icmp .ne 7, 3) := by decide +kernel
theorem dX6_areAlike_137 : decode cX6_areAlike 137 = .ok (.iconst 1, 1) := by decide +kernel
theorem dX6_areAlike_138 : decode cX6_areAlike 138 = .ok (.goto 4, 3) := by decide +kernel
theorem dX6_areAlike_141 : decode cX6_areAlike 141 = .ok (.iconst 0, 1) := by decide +kernel
theorem dX6_areAlike_142 : decode cX6_areAlike 142 = .ok (.istore_n 3, 1) := by decide +kernel
theorem dX6_areAlike_143 : decode cX6_areAlike 143 = .ok (.iinc 7 1, 3) := by decide +kernel
theorem dX6_areAlike_146 : decode cX6_areAlike 146 = .ok (.goto (-44), 3) := by decide +kernel
theorem dX6_areAlike_149 : decode cX6_areAlike 149 = .ok (.iinc 4 1, 3) := by decide +kernel
theorem dX6_areAlike_152 : decode cX6_areAlike 152 = .ok (.goto (-113), 3) := by decide +kernel
theorem dX6_areAlike_155 : decode cX6_areAlike 155 = .ok (.iload_n 3, 1) := by decide +kernel
theorem dX6_areAlike_156 : decode cX6_areAlike 156 = .ok (.ireturn, 1) := by decide +kernel
theorem dX6_twice_0 : decode cX6_twice 0 = .ok (.aload_n 0, 1) := by decide +kernel
theorem dX6_twice_1 : decode cX6_twice 1 = .ok (.aload_n 0, 1) := by decide +kernel
theorem dX6_twice_2 : decode cX6_twice 2 = .ok (.iload_n 1, 1) := by decide +kernel
theorem dX6_twice_3 : decode cX6_twice 3 = .ok (.invokevirtual 121, 3) := by decide +kernel
theorem dX6_twice_6 : decode cX6_twice 6 = .ok (.ifCond .eq 7, 3) := by decide +kernel
theorem dX6_twice_9 : decode cX6_twice 9 = .ok (.iconst 0, 1) := by decide +kernel
theorem dX6_twice_10 : decode cX6_twice 10 = .ok (.goto 4, 3) := by decide +kernel
theorem dX6_twice_13 : decode cX6_twice 13 = .ok (.iconst 1, 1) := by decide +kernel
theorem dX6_twice_14 : decode cX6_twice 14 = .ok (.putfield 74, 3) := by decide +kernel
theorem dX6_twice_17 : decode cX6_twice 17 = .ok (.iconst (-1), 1) := by decide +kernel
theorem dX6_twice_18 : decode cX6_twice 18 = .ok (.istore_n 2, 1) := by decide +kernel
theorem dX6_twice_19 : decode cX6_twice 19 = .ok (.iload_n 1, 1) := by decide +kernel
theorem dX6_twice_20 : decode cX6_twice 20 = .ok (.iconst 1, 1) := by decide +kernel
theorem dX6_twice_21 : decode cX6_twice 21 = .ok (.isub, 1) := by decide +kernel
theorem dX6_twice_22 : decode cX6_twice 22 = .ok (.istore_n 3, 1) := by decide +kernel
theorem dX6_twice_23 : decode cX6_twice 23 = .ok (.iload_n 3, 1) := by decide +kernel
theorem dX6_twice_24 : decode cX6_twice 24 = .ok (.ifCond .lt 31, 3) := by decide +kernel
theorem dX6_twice_27 : decode cX6_twice 27 = .ok (.aload_n 0, 1) := by decide +kernel
theorem dX6_twice_28 : decode cX6_twice 28 = .ok (.getfield 74, 3) := by decide +kernel
theorem dX6_twice_31 : decode cX6_twice 31 = .ok (.ifCond .ne 24, 3) := by decide +kernel
theorem dX6_twice_34 : decode cX6_twice 34 = .ok (.aload_n 0, 1) := by decide +kernel
theorem dX6_twice_35 : decode cX6_twice 35 = .ok (.iload_n 3, 1) := by decide +kernel
theorem dX6_twice_36 : decode cX6_twice 36 = .ok (.iload_n 1, 1) := by decide +kernel
theorem dX6_twice_37 : decode cX6_twice 37 = .ok (.invokevirtual 125, 3) := by decide +kernel
theorem dX6_twice_40 : decode cX6_twice 40 = .ok (.ifCond .eq 7, 3) := by decide +kernel
theorem dX6_twice_43 : decode cX6_twice 43 = .ok (.iload_n 3, 1) := by decide +kernel
theorem dX6_twice_44 : decode cX6_twice 44 = .ok (.goto 4, 3) := by decide +kernel
theorem dX6_twice_47 : decode cX6_twice 47 = .ok (.iload_n 2, 1) := by decide +kernel
theorem dX6_twice_48 : decode cX6_twice 48 = .ok (.istore_n 2, 1) := by decide +kernel
theorem dX6_twice_49 : decode cX6_twice 49 = .ok (.iinc 3 (-1), 3) := by decide +kernel
theorem dX6_twice_52 : decode cX6_twice 52 = .ok (.goto (-29), 3) := by decide +kernel
theorem dX6_twice_55 : decode cX6_twice 55 = .ok (.aload_n 0, 1) := by decide +kernel
theorem dX6_twice_56 : decode cX6_twice 56 = .ok (.getfield 74, 3) := by decide +kernel
theorem dX6_twice_59 : decode cX6_twice 59 = .ok (.ifCond .le 7, 3) := by decide +kernel
theorem dX6_twice_62 : decode cX6_twice 62 = .ok (.iconst 0, 1) := by decide +kernel
theorem dX6_twice_63 : decode cX6_twice 63 = .ok (.goto 4, 3) := by decide +kernel
theorem dX6_twice_66 : decode cX6_twice 66 = .ok (.iload_n 2, 1) := by decide +kernel
theorem dX6_twice_67 : decode cX6_twice 67 = .ok (.ireturn, 1) := by decide +kernel
theorem dX6_isPage_0 : decode cX6_isPage 0 = .ok (.aload_n 0, 1) := by decide +kernel
theorem dX6_isPage_1 : decode cX6_isPage 1 = .ok (.iload_n 1, 1) := by decide +kernel
theorem dX6_isPage_2 : decode cX6_isPage 2 = .ok (.invokevirtual 121, 3) := by decide +kernel
theorem dX6_isPage_5 : decode cX6_isPage 5 = .ok (.ifCond .eq 23, 3) := by decide +kernel
theorem dX6_isPage_8 : decode cX6_isPage 8 = .ok (.iload_n 2, 1) := by decide +kernel
theorem dX6_isPage_9 : decode cX6_isPage 9 = .ok (.iconst 0, 1) := by decide +kernel
theorem dX6_isPage_10 : decode cX6_isPage 10 = .ok (.aload_n 0, 1) := by decide +kernel
theorem dX6_isPage_11 : decode cX6_isPage 11 = .ok (.getfield 37, 3) := by decide +kernel
theorem dX6_isPage_14 : decode cX6_isPage 14 = .ok (.iload_n 1, 1) := by decide +kernel
theorem dX6_isPage_15 : decode cX6_isPage 15 = .ok (.iaload, 1) := by decide +kernel
theorem dX6_isPage_16 : decode cX6_isPage 16 = .ok (.iconst 1, 1) := by decide +kernel
theorem dX6_isPage_17 : decode cX6_isPage 17 = .ok (.isub, 1) := by decide +kernel
theorem dX6_isPage_18 : decode cX6_isPage 18 = .ok (.invokestatic 81, 3) := by decide +kernel
theorem dX6_isPage_21 : decode cX6_isPage 21 = .ok (.ifCond .eq 7, 3) := by decide +kernel
theorem dX6_isPage_24 : decode cX6_isPage 24 = .ok (.iconst 1, 1) := by decide +kernel
theorem dX6_isPage_25 : decode cX6_isPage 25 = .ok (.goto 4, 3) := by decide +kernel
theorem dX6_isPage_28 : decode cX6_isPage 28 = .ok (.iconst 0, 1) := by decide +kernel
theorem dX6_isPage_29 : decode cX6_isPage 29 = .ok (.ireturn, 1) := by decide +kernel
theorem dX6_reprint_0 : decode cX6_reprint 0 = .ok (.aload_n 0, 1) := by decide +kernel
theorem dX6_reprint_1 : decode cX6_reprint 1 = .ok (.aload_n 0, 1) := by decide +kernel
theorem dX6_reprint_2 : decode cX6_reprint 2 = .ok (.iload_n 1, 1) := by decide +kernel
theorem dX6_reprint_3 : decode cX6_reprint 3 = .ok (.iload_n 2, 1) := by decide +kernel
theorem dX6_reprint_4 : decode cX6_reprint 4 = .ok (.invokevirtual 129, 3) := by decide +kernel
theorem dX6_reprint_7 : decode cX6_reprint 7 = .ok (.ifCond .ne 7, 3) := by decide +kernel
theorem dX6_reprint_10 : decode cX6_reprint 10 = .ok (.iconst 1, 1) := by decide +kernel
theorem dX6_reprint_11 : decode cX6_reprint 11 = .ok (.goto 18, 3) := by decide +kernel
theorem dX6_reprint_14 : decode cX6_reprint 14 = .ok (.iload_n 3, 1) := by decide +kernel
theorem dX6_reprint_15 : decode cX6_reprint 15 = .ok (.iconst 1, 1) := by decide +kernel
theorem dX6_reprint_16 : decode cX6_reprint 16 = .ok (.bipush 9, 2) := by decide +kernel
theorem dX6_reprint_18 : decode cX6_reprint 18 = .ok (.invokestatic 81, 3) := by decide +kernel
theorem dX6_reprint_21 : decode cX6_reprint 21 = .ok (.ifCond .eq 7, 3) := by decide +kernel
theorem dX6_reprint_24 : decode cX6_reprint 24 = .ok (.iconst 0, 1) := by decide +kernel
theorem dX6_reprint_25 : decode cX6_reprint 25 = .ok (.goto 4, 3) := by decide +kernel
theorem dX6_reprint_28 : decode cX6_reprint 28 = .ok (.iconst 2, 1) := by decide +kernel
theorem dX6_reprint_29 : decode cX6_reprint 29 = .ok (.putfield 74, 3) := by decide +kernel
theorem dX6_reprint_32 : decode cX6_reprint 32 = .ok (.aload_n 0, 1) := by decide +kernel
theorem dX6_reprint_33 : decode cX6_reprint 33 = .ok (.getfield 74, 3) := by decide +kernel
theorem dX6_reprint_36 : decode cX6_reprint 36 = .ok (.ifCond .le 5, 3) := by decide +kernel
theorem dX6_reprint_39 : decode cX6_reprint 39 = .ok (.iconst 0, 1) := by decide +kernel
theorem dX6_reprint_40 : decode cX6_reprint 40 = .ok (.ireturn, 1) := by decide +kernel
theorem dX6_reprint_41 : decode cX6_reprint 41 = .ok (.iload_n 2, 1) := by decide +kernel
theorem dX6_reprint_42 : decode cX6_reprint 42 = .ok (.istore 4, 2) := by decide +kernel
theorem dX6_reprint_44 : decode cX6_reprint 44 = .ok (.iload 4, 2) := by decide +kernel
theorem dX6_reprint_46 : decode cX6_reprint 46 = .ok (.aload_n 0, 1) := by decide +kernel
theorem dX6_reprint_47 : decode cX6_reprint 47 = .ok (.getfield 37, 3) := by decide +kernel
theorem dX6_reprint_50 : decode cX6_reprint 50 = .ok (.iload_n 1, 1) := by decide +kernel
theorem dX6_reprint_51 : decode cX6_reprint 51 = .ok (.iaload, 1) := by decide +kernel
theorem dX6_reprint_52 : decode cX6_reprint 52 = .ok (.if_icmp .ge 27, 3) := by decide +kernel
theorem dX6_reprint_55 : decode cX6_reprint 55 = .ok (.aload_n 0, 1) := by decide +kernel
theorem dX6_reprint_56 : decode cX6_reprint 56 = .ok (.getfield 28, 3) := by decide +kernel
theorem dX6_reprint_59 : decode cX6_reprint 59 = .ok (.aload_n 0, 1) := by decide +kernel
theorem dX6_reprint_60 : decode cX6_reprint 60 = .ok (.getfield 34, 3) := by decide +kernel
theorem dX6_reprint_63 : decode cX6_reprint 63 = .ok (.iload_n 1, 1) := by decide +kernel
theorem dX6_reprint_64 : decode cX6_reprint 64 = .ok (.iaload, 1) := by decide +kernel
theorem dX6_reprint_65 : decode cX6_reprint 65 = .ok (.iload 4, 2) := by decide +kernel
theorem dX6_reprint_67 : decode cX6_reprint 67 = .ok (.iadd, 1) := by decide +kernel
theorem dX6_reprint_68 : decode cX6_reprint 68 = .ok (.dup2, 1) := by decide +kernel
theorem dX6_reprint_69 : decode cX6_reprint 69 = .ok (.iaload, 1) := by decide +kernel
theorem dX6_reprint_70 : decode cX6_reprint 70 = .ok (.iload_n 3, 1) := by decide +kernel
theorem dX6_reprint_71 : decode cX6_reprint 71 = .ok (.iadd, 1) := by decide +kernel
theorem dX6_reprint_72 : decode cX6_reprint 72 = .ok (.iastore, 1) := by decide +kernel
theorem dX6_reprint_73 : decode cX6_reprint 73 = .ok (.iinc 4 1, 3) := by decide +kernel
theorem dX6_reprint_76 : decode cX6_reprint 76 = .ok (.goto (-32), 3) := by decide +kernel
theorem dX6_reprint_79 : decode cX6_reprint 79 = .ok (.iload_n 3, 1) := by decide +kernel
theorem dX6_reprint_80 : decode cX6_reprint 80 = .ok (.aload_n 0, 1) := by decide +kernel
theorem dX6_reprint_81 : decode cX6_reprint 81 = .ok (.getfield 37, 3) := by decide +kernel
theorem dX6_reprint_84 : decode cX6_reprint 84 = .ok (.iload_n 1, 1) := by decide +kernel
theorem dX6_reprint_85 : decode cX6_reprint 85 = .ok (.iaload, 1) := by decide +kernel
theorem dX6_reprint_86 : decode cX6_reprint 86 = .ok (.iload_n 2, 1) := by decide +kernel
theorem dX6_reprint_87 : decode cX6_reprint 87 = .ok (.isub, 1) := by decide +kernel
theorem dX6_reprint_88 : decode cX6_reprint 88 = .ok (.imul, 1) := by decide +kernel
theorem dX6_reprint_89 : decode cX6_reprint 89 = .ok (.ireturn, 1) := by decide +kernel
theorem dX6_copies_0 : decode cX6_copies 0 = .ok (.aload_n 0, 1) := by decide +kernel
theorem dX6_copies_1 : decode cX6_copies 1 = .ok (.aload_n 0, 1) := by decide +kernel
theorem dX6_copies_2 : decode cX6_copies 2 = .ok (.iload_n 1, 1) := by decide +kernel
theorem dX6_copies_3 : decode cX6_copies 3 = .ok (.iload_n 2, 1) := by decide +kernel
theorem dX6_copies_4 : decode cX6_copies 4 = .ok (.invokevirtual 129, 3) := by decide +kernel
theorem dX6_copies_7 : decode cX6_copies 7 = .ok (.ifCond .eq 7, 3) := by decide +kernel
theorem dX6_copies_10 : decode cX6_copies 10 = .ok (.iconst 0, 1) := by decide +kernel
theorem dX6_copies_11 : decode cX6_copies 11 = .ok (.goto 4, 3) := by decide +kernel
theorem dX6_copies_14 : decode cX6_copies 14 = .ok (.iconst 1, 1) := by decide +kernel
theorem dX6_copies_15 : decode cX6_copies 15 = .ok (.putfield 74, 3) := by decide +kernel
theorem dX6_copies_18 : decode cX6_copies 18 = .ok (.aload_n 0, 1) := by decide +kernel
theorem dX6_copies_19 : decode cX6_copies 19 = .ok (.getfield 74, 3) := by decide +kernel
theorem dX6_copies_22 : decode cX6_copies 22 = .ok (.ifCond .le 7, 3) := by decide +kernel
theorem dX6_copies_25 : decode cX6_copies 25 = .ok (.iconst 0, 1) := by decide +kernel
theorem dX6_copies_26 : decode cX6_copies 26 = .ok (.goto 16, 3) := by decide +kernel
theorem dX6_copies_29 : decode cX6_copies 29 = .ok (.aload_n 0, 1) := by decide +kernel
theorem dX6_copies_30 : decode cX6_copies 30 = .ok (.getfield 28, 3) := by decide +kernel
theorem dX6_copies_33 : decode cX6_copies 33 = .ok (.aload_n 0, 1) := by decide +kernel
theorem dX6_copies_34 : decode cX6_copies 34 = .ok (.getfield 34, 3) := by decide +kernel
theorem dX6_copies_37 : decode cX6_copies 37 = .ok (.iload_n 1, 1) := by decide +kernel
theorem dX6_copies_38 : decode cX6_copies 38 = .ok (.iaload, 1) := by decide +kernel
theorem dX6_copies_39 : decode cX6_copies 39 = .ok (.iload_n 2, 1) := by decide +kernel
theorem dX6_copies_40 : decode cX6_copies 40 = .ok (.iadd, 1) := by decide +kernel
theorem dX6_copies_41 : decode cX6_copies 41 = .ok (.iaload, 1) := by decide +kernel
theorem dX6_copies_42 : decode cX6_copies 42 = .ok (.ireturn, 1) := by decide +kernel
theorem dX6_documents_0 : decode cX6_documents 0 = .ok (.aload_n 0, 1) := by decide +kernel
theorem dX6_documents_1 : decode cX6_documents 1 = .ok (.iconst 0, 1) := by decide +kernel
theorem dX6_documents_2 : decode cX6_documents 2 = .ok (.putfield 74, 3) := by decide +kernel
theorem dX6_documents_5 : decode cX6_documents 5 = .ok (.aload_n 0, 1) := by decide +kernel
theorem dX6_documents_6 : decode cX6_documents 6 = .ok (.getfield 107, 3) := by decide +kernel
theorem dX6_documents_9 : decode cX6_documents 9 = .ok (.ireturn, 1) := by decide +kernel
theorem dX6_asks_0 : decode cX6_asks 0 = .ok (.aload_n 0, 1) := by decide +kernel
theorem dX6_asks_1 : decode cX6_asks 1 = .ok (.iload_n 1, 1) := by decide +kernel
theorem dX6_asks_2 : decode cX6_asks 2 = .ok (.iconst 0, 1) := by decide +kernel
theorem dX6_asks_3 : decode cX6_asks 3 = .ok (.aload_n 0, 1) := by decide +kernel
theorem dX6_asks_4 : decode cX6_asks 4 = .ok (.getfield 107, 3) := by decide +kernel
theorem dX6_asks_7 : decode cX6_asks 7 = .ok (.iconst 1, 1) := by decide +kernel
theorem dX6_asks_8 : decode cX6_asks 8 = .ok (.isub, 1) := by decide +kernel
theorem dX6_asks_9 : decode cX6_asks 9 = .ok (.invokestatic 81, 3) := by decide +kernel
theorem dX6_asks_12 : decode cX6_asks 12 = .ok (.ifCond .eq 7, 3) := by decide +kernel
theorem dX6_asks_15 : decode cX6_asks 15 = .ok (.iconst 0, 1) := by decide +kernel
theorem dX6_asks_16 : decode cX6_asks 16 = .ok (.goto 4, 3) := by decide +kernel
theorem dX6_asks_19 : decode cX6_asks 19 = .ok (.iconst 1, 1) := by decide +kernel
theorem dX6_asks_20 : decode cX6_asks 20 = .ok (.putfield 74, 3) := by decide +kernel
theorem dX6_asks_23 : decode cX6_asks 23 = .ok (.aload_n 0, 1) := by decide +kernel
theorem dX6_asks_24 : decode cX6_asks 24 = .ok (.getfield 74, 3) := by decide +kernel
theorem dX6_asks_27 : decode cX6_asks 27 = .ok (.ifCond .ne 7, 3) := by decide +kernel
theorem dX6_asks_30 : decode cX6_asks 30 = .ok (.iconst 1, 1) := by decide +kernel
theorem dX6_asks_31 : decode cX6_asks 31 = .ok (.goto 4, 3) := by decide +kernel
theorem dX6_asks_34 : decode cX6_asks 34 = .ok (.iconst 0, 1) := by decide +kernel
theorem dX6_asks_35 : decode cX6_asks 35 = .ok (.ireturn, 1) := by decide +kernel
theorem dX6_isThere_0 : decode cX6_isThere 0 = .ok (.aload_n 0, 1) := by decide +kernel
theorem dX6_isThere_1 : decode cX6_isThere 1 = .ok (.iload_n 1, 1) := by decide +kernel
theorem dX6_isThere_2 : decode cX6_isThere 2 = .ok (.invokevirtual 132, 3) := by decide +kernel
theorem dX6_isThere_5 : decode cX6_isThere 5 = .ok (.ifCond .eq 16, 3) := by decide +kernel
theorem dX6_isThere_8 : decode cX6_isThere 8 = .ok (.aload_n 0, 1) := by decide +kernel
theorem dX6_isThere_9 : decode cX6_isThere 9 = .ok (.getfield 55, 3) := by decide +kernel
theorem dX6_isThere_12 : decode cX6_isThere 12 = .ok (.iload_n 1, 1) := by decide +kernel
theorem dX6_isThere_13 : decode cX6_isThere 13 = .ok (.baload, 1) := by decide +kernel
theorem dX6_isThere_14 : decode cX6_isThere 14 = .ok (.ifCond .ne 7, 3) := by decide +kernel
theorem dX6_isThere_17 : decode cX6_isThere 17 = .ok (.iconst 1, 1) := by decide +kernel
theorem dX6_isThere_18 : decode cX6_isThere 18 = .ok (.goto 4, 3) := by decide +kernel
theorem dX6_isThere_21 : decode cX6_isThere 21 = .ok (.iconst 0, 1) := by decide +kernel
theorem dX6_isThere_22 : decode cX6_isThere 22 = .ok (.ireturn, 1) := by decide +kernel
theorem dX6_account_0 : decode cX6_account 0 = .ok (.aload_n 0, 1) := by decide +kernel
theorem dX6_account_1 : decode cX6_account 1 = .ok (.iload_n 1, 1) := by decide +kernel
theorem dX6_account_2 : decode cX6_account 2 = .ok (.invokevirtual 132, 3) := by decide +kernel
theorem dX6_account_5 : decode cX6_account 5 = .ok (.ifCond .eq 12, 3) := by decide +kernel
theorem dX6_account_8 : decode cX6_account 8 = .ok (.aload_n 0, 1) := by decide +kernel
theorem dX6_account_9 : decode cX6_account 9 = .ok (.getfield 46, 3) := by decide +kernel
theorem dX6_account_12 : decode cX6_account 12 = .ok (.iload_n 1, 1) := by decide +kernel
theorem dX6_account_13 : decode cX6_account 13 = .ok (.iaload, 1) := by decide +kernel
theorem dX6_account_14 : decode cX6_account 14 = .ok (.goto 4, 3) := by decide +kernel
theorem dX6_account_17 : decode cX6_account 17 = .ok (.iconst 0, 1) := by decide +kernel
theorem dX6_account_18 : decode cX6_account 18 = .ok (.ireturn, 1) := by decide +kernel
theorem dX6_kind_0 : decode cX6_kind 0 = .ok (.aload_n 0, 1) := by decide +kernel
theorem dX6_kind_1 : decode cX6_kind 1 = .ok (.iload_n 1, 1) := by decide +kernel
theorem dX6_kind_2 : decode cX6_kind 2 = .ok (.invokevirtual 132, 3) := by decide +kernel
theorem dX6_kind_5 : decode cX6_kind 5 = .ok (.ifCond .eq 12, 3) := by decide +kernel
theorem dX6_kind_8 : decode cX6_kind 8 = .ok (.aload_n 0, 1) := by decide +kernel
theorem dX6_kind_9 : decode cX6_kind 9 = .ok (.getfield 49, 3) := by decide +kernel
theorem dX6_kind_12 : decode cX6_kind 12 = .ok (.iload_n 1, 1) := by decide +kernel
theorem dX6_kind_13 : decode cX6_kind 13 = .ok (.iaload, 1) := by decide +kernel
theorem dX6_kind_14 : decode cX6_kind 14 = .ok (.goto 4, 3) := by decide +kernel
theorem dX6_kind_17 : decode cX6_kind 17 = .ok (.iconst 0, 1) := by decide +kernel
theorem dX6_kind_18 : decode cX6_kind 18 = .ok (.ireturn, 1) := by decide +kernel
theorem dX6_length_0 : decode cX6_length 0 = .ok (.aload_n 0, 1) := by decide +kernel
theorem dX6_length_1 : decode cX6_length 1 = .ok (.iload_n 1, 1) := by decide +kernel
theorem dX6_length_2 : decode cX6_length 2 = .ok (.invokevirtual 132, 3) := by decide +kernel
theorem dX6_length_5 : decode cX6_length 5 = .ok (.ifCond .eq 12, 3) := by decide +kernel
theorem dX6_length_8 : decode cX6_length 8 = .ok (.aload_n 0, 1) := by decide +kernel
theorem dX6_length_9 : decode cX6_length 9 = .ok (.getfield 43, 3) := by decide +kernel
theorem dX6_length_12 : decode cX6_length 12 = .ok (.iload_n 1, 1) := by decide +kernel
theorem dX6_length_13 : decode cX6_length 13 = .ok (.iaload, 1) := by decide +kernel
theorem dX6_length_14 : decode cX6_length 14 = .ok (.goto 4, 3) := by decide +kernel
theorem dX6_length_17 : decode cX6_length 17 = .ok (.iconst 0, 1) := by decide +kernel
theorem dX6_length_18 : decode cX6_length 18 = .ok (.ireturn, 1) := by decide +kernel
theorem dX6_isReader_0 : decode cX6_isReader 0 = .ok (.iload_n 0, 1) := by decide +kernel
theorem dX6_isReader_1 : decode cX6_isReader 1 = .ok (.iconst 0, 1) := by decide +kernel
theorem dX6_isReader_2 : decode cX6_isReader 2 = .ok (.iconst 3, 1) := by decide +kernel
theorem dX6_isReader_3 : decode cX6_isReader 3 = .ok (.invokestatic 81, 3) := by decide +kernel
theorem dX6_isReader_6 : decode cX6_isReader 6 = .ok (.ireturn, 1) := by decide +kernel
theorem dX6_sees_0 : decode cX6_sees 0 = .ok (.aload_n 0, 1) := by decide +kernel
theorem dX6_sees_1 : decode cX6_sees 1 = .ok (.getfield 46, 3) := by decide +kernel
theorem dX6_sees_4 : decode cX6_sees 4 = .ok (.iload_n 2, 1) := by decide +kernel
theorem dX6_sees_5 : decode cX6_sees 5 = .ok (.iaload, 1) := by decide +kernel
theorem dX6_sees_6 : decode cX6_sees 6 = .ok (.iconst (-1), 1) := by decide +kernel
theorem dX6_sees_7 : decode cX6_sees 7 = .ok (.if_icmp .ne 15, 3) := by decide +kernel
theorem dX6_sees_10 : decode cX6_sees 10 = .ok (.iload_n 1, 1) := by decide +kernel
theorem dX6_sees_11 : decode cX6_sees 11 = .ok (.ifCond .ne 7, 3) := by decide +kernel
theorem dX6_sees_14 : decode cX6_sees 14 = .ok (.iconst 1, 1) := by decide +kernel
theorem dX6_sees_15 : decode cX6_sees 15 = .ok (.goto 28, 3) := by decide +kernel
theorem dX6_sees_18 : decode cX6_sees 18 = .ok (.iconst 0, 1) := by decide +kernel
theorem dX6_sees_19 : decode cX6_sees 19 = .ok (.goto 24, 3) := by decide +kernel
theorem dX6_sees_22 : decode cX6_sees 22 = .ok (.aload_n 0, 1) := by decide +kernel
theorem dX6_sees_23 : decode cX6_sees 23 = .ok (.getfield 46, 3) := by decide +kernel
theorem dX6_sees_26 : decode cX6_sees 26 = .ok (.iload_n 2, 1) := by decide +kernel
theorem dX6_sees_27 : decode cX6_sees 27 = .ok (.iaload, 1) := by decide +kernel
theorem dX6_sees_28 : decode cX6_sees 28 = .ok (.aload_n 0, 1) := by decide +kernel
theorem dX6_sees_29 : decode cX6_sees 29 = .ok (.getfield 59, 3) := by decide +kernel
theorem dX6_sees_32 : decode cX6_sees 32 = .ok (.iload_n 1, 1) := by decide +kernel
theorem dX6_sees_33 : decode cX6_sees 33 = .ok (.iaload, 1) := by decide +kernel
theorem dX6_sees_34 : decode cX6_sees 34 = .ok (.aload_n 0, 1) := by decide +kernel
theorem dX6_sees_35 : decode cX6_sees 35 = .ok (.getfield 62, 3) := by decide +kernel
theorem dX6_sees_38 : decode cX6_sees 38 = .ok (.iload_n 1, 1) := by decide +kernel
theorem dX6_sees_39 : decode cX6_sees 39 = .ok (.iaload, 1) := by decide +kernel
theorem dX6_sees_40 : decode cX6_sees 40 = .ok (.invokestatic 81, 3) := by decide +kernel
theorem dX6_sees_43 : decode cX6_sees 43 = .ok (.istore_n 3, 1) := by decide +kernel
theorem dX6_sees_44 : decode cX6_sees 44 = .ok (.iload_n 3, 1) := by decide +kernel
theorem dX6_sees_45 : decode cX6_sees 45 = .ok (.ifCond .eq 16, 3) := by decide +kernel
theorem dX6_sees_48 : decode cX6_sees 48 = .ok (.aload_n 0, 1) := by decide +kernel
theorem dX6_sees_49 : decode cX6_sees 49 = .ok (.getfield 55, 3) := by decide +kernel
theorem dX6_sees_52 : decode cX6_sees 52 = .ok (.iload_n 2, 1) := by decide +kernel
theorem dX6_sees_53 : decode cX6_sees 53 = .ok (.baload, 1) := by decide +kernel
theorem dX6_sees_54 : decode cX6_sees 54 = .ok (.ifCond .ne 7, 3) := by decide +kernel
theorem dX6_sees_57 : decode cX6_sees 57 = .ok (.iconst 1, 1) := by decide +kernel
theorem dX6_sees_58 : decode cX6_sees 58 = .ok (.goto 4, 3) := by decide +kernel
theorem dX6_sees_61 : decode cX6_sees 61 = .ok (.iconst 0, 1) := by decide +kernel
theorem dX6_sees_62 : decode cX6_sees 62 = .ok (.ireturn, 1) := by decide +kernel
theorem dX6_found_0 : decode cX6_found 0 = .ok (.iload_n 1, 1) := by decide +kernel
theorem dX6_found_1 : decode cX6_found 1 = .ok (.invokestatic 135, 3) := by decide +kernel
theorem dX6_found_4 : decode cX6_found 4 = .ok (.ifCond .eq 38, 3) := by decide +kernel
theorem dX6_found_7 : decode cX6_found 7 = .ok (.iload_n 2, 1) := by decide +kernel
theorem dX6_found_8 : decode cX6_found 8 = .ok (.iconst (-1), 1) := by decide +kernel
theorem dX6_found_9 : decode cX6_found 9 = .ok (.bipush 99, 2) := by decide +kernel
theorem dX6_found_11 : decode cX6_found 11 = .ok (.invokestatic 81, 3) := by decide +kernel
theorem dX6_found_14 : decode cX6_found 14 = .ok (.ifCond .eq 28, 3) := by decide +kernel
theorem dX6_found_17 : decode cX6_found 17 = .ok (.iload_n 3, 1) := by decide +kernel
theorem dX6_found_18 : decode cX6_found 18 = .ok (.iconst (-1), 1) := by decide +kernel
theorem dX6_found_19 : decode cX6_found 19 = .ok (.iconst 3, 1) := by decide +kernel
theorem dX6_found_20 : decode cX6_found 20 = .ok (.invokestatic 81, 3) := by decide +kernel
theorem dX6_found_23 : decode cX6_found 23 = .ok (.ifCond .eq 19, 3) := by decide +kernel
theorem dX6_found_26 : decode cX6_found 26 = .ok (.iload 4, 2) := by decide +kernel
theorem dX6_found_28 : decode cX6_found 28 = .ok (.iconst 0, 1) := by decide +kernel
theorem dX6_found_29 : decode cX6_found 29 = .ok (.sipush 9999, 3) := by decide +kernel
theorem dX6_found_32 : decode cX6_found 32 = .ok (.invokestatic 81, 3) := by decide +kernel
theorem dX6_found_35 : decode cX6_found 35 = .ok (.ifCond .eq 7, 3) := by decide +kernel
theorem dX6_found_38 : decode cX6_found 38 = .ok (.iconst 1, 1) := by decide +kernel
theorem dX6_found_39 : decode cX6_found 39 = .ok (.goto 4, 3) := by decide +kernel
theorem dX6_found_42 : decode cX6_found 42 = .ok (.iconst 0, 1) := by decide +kernel
theorem dX6_found_43 : decode cX6_found 43 = .ok (.istore 6, 2) := by decide +kernel
theorem dX6_found_45 : decode cX6_found 45 = .ok (.aload_n 0, 1) := by decide +kernel
theorem dX6_found_46 : decode cX6_found 46 = .ok (.iload 6, 2) := by decide +kernel
theorem dX6_found_48 : decode cX6_found 48 = .ok (.ifCond .eq 7, 3) := by decide +kernel
theorem dX6_found_51 : decode cX6_found 51 = .ok (.iconst 0, 1) := by decide +kernel
theorem dX6_found_52 : decode cX6_found 52 = .ok (.goto 4, 3) := by decide +kernel
theorem dX6_found_55 : decode cX6_found 55 = .ok (.iconst 1, 1) := by decide +kernel
theorem dX6_found_56 : decode cX6_found 56 = .ok (.putfield 74, 3) := by decide +kernel
theorem dX6_found_59 : decode cX6_found 59 = .ok (.aload_n 0, 1) := by decide +kernel
theorem dX6_found_60 : decode cX6_found 60 = .ok (.getfield 74, 3) := by decide +kernel
theorem dX6_found_63 : decode cX6_found 63 = .ok (.ifCond .le 5, 3) := by decide +kernel
theorem dX6_found_66 : decode cX6_found 66 = .ok (.iconst 0, 1) := by decide +kernel
theorem dX6_found_67 : decode cX6_found 67 = .ok (.ireturn, 1) := by decide +kernel
theorem dX6_found_68 : decode cX6_found 68 = .ok (.iconst 0, 1) := by decide +kernel
theorem dX6_found_69 : decode cX6_found 69 = .ok (.istore 7, 2) := by decide +kernel
theorem dX6_found_71 : decode cX6_found 71 = .ok (.iconst (-1), 1) := by decide +kernel
theorem dX6_found_72 : decode cX6_found 72 = .ok (.istore 8, 2) := by decide +kernel
theorem dX6_found_74 : decode cX6_found 74 = .ok (.iconst 0, 1) := by decide +kernel
theorem dX6_found_75 : decode cX6_found 75 = .ok (.istore 9, 2) := by decide +kernel
theorem dX6_found_77 : decode cX6_found 77 = .ok (.iload 9, 2) := by decide +kernel
theorem dX6_found_79 : decode cX6_found 79 = .ok (.aload_n 0, 1) := by decide +kernel
theorem dX6_found_80 : decode cX6_found 80 = .ok (.getfield 107, 3) := by decide +kernel
theorem dX6_found_83 : decode cX6_found 83 = .ok (.if_icmp .ge 106, 3) := by decide +kernel
theorem dX6_found_86 : decode cX6_found 86 = .ok (.aload_n 0, 1) := by decide +kernel
theorem dX6_found_87 : decode cX6_found 87 = .ok (.iload_n 1, 1) := by decide +kernel
theorem dX6_found_88 : decode cX6_found 88 = .ok (.iload 9, 2) := by decide +kernel
theorem dX6_found_90 : decode cX6_found 90 = .ok (.invokevirtual 138, 3) := by decide +kernel
theorem dX6_found_93 : decode cX6_found 93 = .ok (.ifCond .eq 51, 3) := by decide +kernel
theorem dX6_found_96 : decode cX6_found 96 = .ok (.iload_n 2, 1) := by decide +kernel
theorem dX6_found_97 : decode cX6_found 97 = .ok (.iconst (-1), 1) := by decide +kernel
theorem dX6_found_98 : decode cX6_found 98 = .ok (.if_icmp .eq 14, 3) := by decide +kernel
theorem dX6_found_101 : decode cX6_found 101 = .ok (.aload_n 0, 1) := by decide +kernel
theorem dX6_found_102 : decode cX6_found 102 = .ok (.getfield 46, 3) := by decide +kernel
theorem dX6_found_105 : decode cX6_found 105 = .ok (.iload 9, 2) := by decide +kernel
theorem dX6_found_107 : decode cX6_found 107 = .ok (.iaload, 1) := by decide +kernel
theorem dX6_found_108 : decode cX6_found 108 = .ok (.iload_n 2, 1) := by decide +kernel
theorem dX6_found_109 : decode cX6_found 109 = .ok (.if_icmp .ne 35, 3) := by decide +kernel
theorem dX6_found_112 : decode cX6_found 112 = .ok (.iload_n 3, 1) := by decide +kernel
theorem dX6_found_113 : decode cX6_found 113 = .ok (.iconst (-1), 1) := by decide +kernel
theorem dX6_found_114 : decode cX6_found 114 = .ok (.if_icmp .eq 14, 3) := by decide +kernel
theorem dX6_found_117 : decode cX6_found 117 = .ok (.aload_n 0, 1) := by decide +kernel
theorem dX6_found_118 : decode cX6_found 118 = .ok (.getfield 49, 3) := by decide +kernel
theorem dX6_found_121 : decode cX6_found 121 = .ok (.iload 9, 2) := by decide +kernel
theorem dX6_found_123 : decode cX6_found 123 = .ok (.iaload, 1) := by decide +kernel
theorem dX6_found_124 : decode cX6_found 124 = .ok (.iload_n 3, 1) := by decide +kernel
theorem dX6_found_125 : decode cX6_found 125 = .ok (.if_icmp .ne 19, 3) := by decide +kernel
theorem dX6_found_128 : decode cX6_found 128 = .ok (.aload_n 0, 1) := by decide +kernel
theorem dX6_found_129 : decode cX6_found 129 = .ok (.getfield 52, 3) := by decide +kernel
theorem dX6_found_132 : decode cX6_found 132 = .ok (.iload 9, 2) := by decide +kernel
theorem dX6_found_134 : decode cX6_found 134 = .ok (.iaload, 1) := by decide +kernel
theorem dX6_found_135 : decode cX6_found 135 = .ok (.iload 4, 2) := by decide +kernel
theorem dX6_found_137 : decode cX6_found 137 = .ok (.if_icmp .lt 7, 3) := by decide +kernel
theorem dX6_found_140 : decode cX6_found 140 = .ok (.iconst 1, 1) := by decide +kernel
theorem dX6_found_141 : decode cX6_found 141 = .ok (.goto 4, 3) := by decide +kernel
theorem dX6_found_144 : decode cX6_found 144 = .ok (.iconst 0, 1) := by decide +kernel
theorem dX6_found_145 : decode cX6_found 145 = .ok (.istore 10, 2) := by decide +kernel
theorem dX6_found_147 : decode cX6_found 147 = .ok (.iload 10, 2) := by decide +kernel
theorem dX6_found_149 : decode cX6_found 149 = .ok (.ifCond .eq 15, 3) := by decide +kernel
theorem dX6_found_152 : decode cX6_found 152 = .ok (.iload 7, 2) := by decide +kernel
theorem dX6_found_154 : decode cX6_found 154 = .ok (.iload 5, 2) := by decide +kernel
theorem dX6_found_156 : decode cX6_found 156 = .ok (.if_icmp .ne 8, 3) := by decide +kernel
theorem dX6_found_159 : decode cX6_found 159 = .ok (.iload 9, 2) := by decide +kernel
theorem dX6_found_161 : decode cX6_found 161 = .ok (.goto 5, 3) := by decide +kernel
theorem dX6_found_164 : decode cX6_found 164 = .ok (.iload 8, 2) := by decide +kernel
theorem dX6_found_166 : decode cX6_found 166 = .ok (.istore 8, 2) := by decide +kernel
theorem dX6_found_168 : decode cX6_found 168 = .ok (.iload 7, 2) := by decide +kernel
theorem dX6_found_170 : decode cX6_found 170 = .ok (.iload 10, 2) := by decide +kernel
theorem dX6_found_172 : decode cX6_found 172 = .ok (.ifCond .eq 7, 3) := by decide +kernel
theorem dX6_found_175 : decode cX6_found 175 = .ok (.iconst 1, 1) := by decide +kernel
theorem dX6_found_176 : decode cX6_found 176 = .ok (.goto 4, 3) := by decide +kernel
theorem dX6_found_179 : decode cX6_found 179 = .ok (.iconst 0, 1) := by decide +kernel
theorem dX6_found_180 : decode cX6_found 180 = .ok (.iadd, 1) := by decide +kernel
theorem dX6_found_181 : decode cX6_found 181 = .ok (.istore 7, 2) := by decide +kernel
theorem dX6_found_183 : decode cX6_found 183 = .ok (.iinc 9 1, 3) := by decide +kernel
theorem dX6_found_186 : decode cX6_found 186 = .ok (.goto (-109), 3) := by decide +kernel
theorem dX6_found_189 : decode cX6_found 189 = .ok (.aload_n 0, 1) := by decide +kernel
theorem dX6_found_190 : decode cX6_found 190 = .ok (.iload 8, 2) := by decide +kernel
theorem dX6_found_192 : decode cX6_found 192 = .ok (.iconst (-1), 1) := by decide +kernel
theorem dX6_found_193 : decode cX6_found 193 = .ok (.if_icmp .ne 7, 3) := by decide +kernel
theorem dX6_found_196 : decode cX6_found 196 = .ok (.iconst 2, 1) := by decide +kernel
theorem dX6_found_197 : decode cX6_found 197 = .ok (.goto 4, 3) := by decide +kernel
theorem dX6_found_200 : decode cX6_found 200 = .ok (.iconst 0, 1) := by decide +kernel
theorem dX6_found_201 : decode cX6_found 201 = .ok (.putfield 74, 3) := by decide +kernel
theorem dX6_found_204 : decode cX6_found 204 = .ok (.aload_n 0, 1) := by decide +kernel
theorem dX6_found_205 : decode cX6_found 205 = .ok (.getfield 74, 3) := by decide +kernel
theorem dX6_found_208 : decode cX6_found 208 = .ok (.ifCond .le 7, 3) := by decide +kernel
theorem dX6_found_211 : decode cX6_found 211 = .ok (.iconst 0, 1) := by decide +kernel
theorem dX6_found_212 : decode cX6_found 212 = .ok (.goto 5, 3) := by decide +kernel
theorem dX6_found_215 : decode cX6_found 215 = .ok (.iload 8, 2) := by decide +kernel
theorem dX6_found_217 : decode cX6_found 217 = .ok (.ireturn, 1) := by decide +kernel
theorem dX6_read_0 : decode cX6_read 0 = .ok (.aload_n 0, 1) := by decide +kernel
theorem dX6_read_1 : decode cX6_read 1 = .ok (.iload_n 1, 1) := by decide +kernel
theorem dX6_read_2 : decode cX6_read 2 = .ok (.invokestatic 135, 3) := by decide +kernel
theorem dX6_read_5 : decode cX6_read 5 = .ok (.ifCond .eq 7, 3) := by decide +kernel
theorem dX6_read_8 : decode cX6_read 8 = .ok (.iconst 0, 1) := by decide +kernel
theorem dX6_read_9 : decode cX6_read 9 = .ok (.goto 4, 3) := by decide +kernel
theorem dX6_read_12 : decode cX6_read 12 = .ok (.iconst 1, 1) := by decide +kernel
theorem dX6_read_13 : decode cX6_read 13 = .ok (.putfield 74, 3) := by decide +kernel
theorem dX6_read_16 : decode cX6_read 16 = .ok (.aload_n 0, 1) := by decide +kernel
theorem dX6_read_17 : decode cX6_read 17 = .ok (.getfield 74, 3) := by decide +kernel
theorem dX6_read_20 : decode cX6_read 20 = .ok (.ifCond .ne 78, 3) := by decide +kernel
theorem dX6_read_23 : decode cX6_read 23 = .ok (.iload_n 2, 1) := by decide +kernel
theorem dX6_read_24 : decode cX6_read 24 = .ok (.iconst 0, 1) := by decide +kernel
theorem dX6_read_25 : decode cX6_read 25 = .ok (.aload_n 0, 1) := by decide +kernel
theorem dX6_read_26 : decode cX6_read 26 = .ok (.getfield 107, 3) := by decide +kernel
theorem dX6_read_29 : decode cX6_read 29 = .ok (.iconst 1, 1) := by decide +kernel
theorem dX6_read_30 : decode cX6_read 30 = .ok (.isub, 1) := by decide +kernel
theorem dX6_read_31 : decode cX6_read 31 = .ok (.invokestatic 81, 3) := by decide +kernel
theorem dX6_read_34 : decode cX6_read 34 = .ok (.ifCond .eq 47, 3) := by decide +kernel
theorem dX6_read_37 : decode cX6_read 37 = .ok (.iload_n 3, 1) := by decide +kernel
theorem dX6_read_38 : decode cX6_read 38 = .ok (.iconst 0, 1) := by decide +kernel
theorem dX6_read_39 : decode cX6_read 39 = .ok (.aload_n 0, 1) := by decide +kernel
theorem dX6_read_40 : decode cX6_read 40 = .ok (.getfield 43, 3) := by decide +kernel
theorem dX6_read_43 : decode cX6_read 43 = .ok (.iload_n 2, 1) := by decide +kernel
theorem dX6_read_44 : decode cX6_read 44 = .ok (.iaload, 1) := by decide +kernel
theorem dX6_read_45 : decode cX6_read 45 = .ok (.iconst 1, 1) := by decide +kernel
theorem dX6_read_46 : decode cX6_read 46 = .ok (.isub, 1) := by decide +kernel
theorem dX6_read_47 : decode cX6_read 47 = .ok (.invokestatic 81, 3) := by decide +kernel
theorem dX6_read_50 : decode cX6_read 50 = .ok (.ifCond .eq 31, 3) := by decide +kernel
theorem dX6_read_53 : decode cX6_read 53 = .ok (.iload 4, 2) := by decide +kernel
theorem dX6_read_55 : decode cX6_read 55 = .ok (.iconst 0, 1) := by decide +kernel
theorem dX6_read_56 : decode cX6_read 56 = .ok (.aload_n 0, 1) := by decide +kernel
theorem dX6_read_57 : decode cX6_read 57 = .ok (.getfield 19, 3) := by decide +kernel
theorem dX6_read_60 : decode cX6_read 60 = .ok (.aload_n 0, 1) := by decide +kernel
theorem dX6_read_61 : decode cX6_read 61 = .ok (.getfield 40, 3) := by decide +kernel
theorem dX6_read_64 : decode cX6_read 64 = .ok (.iload_n 2, 1) := by decide +kernel
theorem dX6_read_65 : decode cX6_read 65 = .ok (.iaload, 1) := by decide +kernel
theorem dX6_read_66 : decode cX6_read 66 = .ok (.iload_n 3, 1) := by decide +kernel
theorem dX6_read_67 : decode cX6_read 67 = .ok (.iadd, 1) := by decide +kernel
theorem dX6_read_68 : decode cX6_read 68 = .ok (.iaload, 1) := by decide +kernel
theorem dX6_read_69 : decode cX6_read 69 = .ok (.iconst 1, 1) := by decide +kernel
theorem dX6_read_70 : decode cX6_read 70 = .ok (.isub, 1) := by decide +kernel
theorem dX6_read_71 : decode cX6_read 71 = .ok (.invokestatic 81, 3) := by decide +kernel
theorem dX6_read_74 : decode cX6_read 74 = .ok (.ifCond .eq 7, 3) := by decide +kernel
theorem dX6_read_77 : decode cX6_read 77 = .ok (.iconst 1, 1) := by decide +kernel
theorem dX6_read_78 : decode cX6_read 78 = .ok (.goto 4, 3) := by decide +kernel
theorem dX6_read_81 : decode cX6_read 81 = .ok (.iconst 0, 1) := by decide +kernel
theorem dX6_read_82 : decode cX6_read 82 = .ok (.istore 5, 2) := by decide +kernel
theorem dX6_read_84 : decode cX6_read 84 = .ok (.aload_n 0, 1) := by decide +kernel
theorem dX6_read_85 : decode cX6_read 85 = .ok (.iload 5, 2) := by decide +kernel
theorem dX6_read_87 : decode cX6_read 87 = .ok (.ifCond .eq 7, 3) := by decide +kernel
theorem dX6_read_90 : decode cX6_read 90 = .ok (.iconst 0, 1) := by decide +kernel
theorem dX6_read_91 : decode cX6_read 91 = .ok (.goto 4, 3) := by decide +kernel
theorem dX6_read_94 : decode cX6_read 94 = .ok (.iconst 2, 1) := by decide +kernel
theorem dX6_read_95 : decode cX6_read 95 = .ok (.putfield 74, 3) := by decide +kernel
theorem dX6_read_98 : decode cX6_read 98 = .ok (.aload_n 0, 1) := by decide +kernel
theorem dX6_read_99 : decode cX6_read 99 = .ok (.getfield 74, 3) := by decide +kernel
theorem dX6_read_102 : decode cX6_read 102 = .ok (.ifCond .ne 21, 3) := by decide +kernel
theorem dX6_read_105 : decode cX6_read 105 = .ok (.aload_n 0, 1) := by decide +kernel
theorem dX6_read_106 : decode cX6_read 106 = .ok (.aload_n 0, 1) := by decide +kernel
theorem dX6_read_107 : decode cX6_read 107 = .ok (.iload_n 1, 1) := by decide +kernel
theorem dX6_read_108 : decode cX6_read 108 = .ok (.iload_n 2, 1) := by decide +kernel
theorem dX6_read_109 : decode cX6_read 109 = .ok (.invokevirtual 138, 3) := by decide +kernel
theorem dX6_read_112 : decode cX6_read 112 = .ok (.ifCond .eq 7, 3) := by decide +kernel
theorem dX6_read_115 : decode cX6_read 115 = .ok (.iconst 0, 1) := by decide +kernel
theorem dX6_read_116 : decode cX6_read 116 = .ok (.goto 4, 3) := by decide +kernel
theorem dX6_read_119 : decode cX6_read 119 = .ok (.iconst 3, 1) := by decide +kernel
theorem dX6_read_120 : decode cX6_read 120 = .ok (.putfield 74, 3) := by decide +kernel
theorem dX6_read_123 : decode cX6_read 123 = .ok (.aload_n 0, 1) := by decide +kernel
theorem dX6_read_124 : decode cX6_read 124 = .ok (.getfield 74, 3) := by decide +kernel
theorem dX6_read_127 : decode cX6_read 127 = .ok (.ifCond .le 7, 3) := by decide +kernel
theorem dX6_read_130 : decode cX6_read 130 = .ok (.iconst 0, 1) := by decide +kernel
theorem dX6_read_131 : decode cX6_read 131 = .ok (.goto 32, 3) := by decide +kernel
theorem dX6_read_134 : decode cX6_read 134 = .ok (.aload_n 0, 1) := by decide +kernel
theorem dX6_read_135 : decode cX6_read 135 = .ok (.getfield 65, 3) := by decide +kernel
theorem dX6_read_138 : decode cX6_read 138 = .ok (.iload_n 1, 1) := by decide +kernel
theorem dX6_read_139 : decode cX6_read 139 = .ok (.iaload, 1) := by decide +kernel
theorem dX6_read_140 : decode cX6_read 140 = .ok (.iload 4, 2) := by decide +kernel
theorem dX6_read_142 : decode cX6_read 142 = .ok (.if_icmp .ne 7, 3) := by decide +kernel
theorem dX6_read_145 : decode cX6_read 145 = .ok (.iconst (-1), 1) := by decide +kernel
theorem dX6_read_146 : decode cX6_read 146 = .ok (.goto 17, 3) := by decide +kernel
theorem dX6_read_149 : decode cX6_read 149 = .ok (.aload_n 0, 1) := by decide +kernel
theorem dX6_read_150 : decode cX6_read 150 = .ok (.aload_n 0, 1) := by decide +kernel
theorem dX6_read_151 : decode cX6_read 151 = .ok (.getfield 40, 3) := by decide +kernel
theorem dX6_read_154 : decode cX6_read 154 = .ok (.iload_n 2, 1) := by decide +kernel
theorem dX6_read_155 : decode cX6_read 155 = .ok (.iaload, 1) := by decide +kernel
theorem dX6_read_156 : decode cX6_read 156 = .ok (.iload_n 3, 1) := by decide +kernel
theorem dX6_read_157 : decode cX6_read 157 = .ok (.iadd, 1) := by decide +kernel
theorem dX6_read_158 : decode cX6_read 158 = .ok (.iload 4, 2) := by decide +kernel
theorem dX6_read_160 : decode cX6_read 160 = .ok (.invokevirtual 103, 3) := by decide +kernel
theorem dX6_read_163 : decode cX6_read 163 = .ok (.ireturn, 1) := by decide +kernel
theorem dX6_view_0 : decode cX6_view 0 = .ok (.iload_n 1, 1) := by decide +kernel
theorem dX6_view_1 : decode cX6_view 1 = .ok (.invokestatic 135, 3) := by decide +kernel
theorem dX6_view_4 : decode cX6_view 4 = .ok (.ifCond .eq 38, 3) := by decide +kernel
theorem dX6_view_7 : decode cX6_view 7 = .ok (.iload_n 2, 1) := by decide +kernel
theorem dX6_view_8 : decode cX6_view 8 = .ok (.iconst 0, 1) := by decide +kernel
theorem dX6_view_9 : decode cX6_view 9 = .ok (.bipush 99, 2) := by decide +kernel
theorem dX6_view_11 : decode cX6_view 11 = .ok (.invokestatic 81, 3) := by decide +kernel
theorem dX6_view_14 : decode cX6_view 14 = .ok (.ifCond .eq 28, 3) := by decide +kernel
theorem dX6_view_17 : decode cX6_view 17 = .ok (.iload_n 3, 1) := by decide +kernel
theorem dX6_view_18 : decode cX6_view 18 = .ok (.iload_n 2, 1) := by decide +kernel
theorem dX6_view_19 : decode cX6_view 19 = .ok (.bipush 99, 2) := by decide +kernel
theorem dX6_view_21 : decode cX6_view 21 = .ok (.invokestatic 81, 3) := by decide +kernel
theorem dX6_view_24 : decode cX6_view 24 = .ok (.ifCond .eq 18, 3) := by decide +kernel
theorem dX6_view_27 : decode cX6_view 27 = .ok (.iload 4, 2) := by decide +kernel
theorem dX6_view_29 : decode cX6_view 29 = .ok (.iconst (-1), 1) := by decide +kernel
theorem dX6_view_30 : decode cX6_view 30 = .ok (.bipush 7, 2) := by decide +kernel
theorem dX6_view_32 : decode cX6_view 32 = .ok (.invokestatic 81, 3) := by decide +kernel
theorem dX6_view_35 : decode cX6_view 35 = .ok (.ifCond .eq 7, 3) := by decide +kernel
theorem dX6_view_38 : decode cX6_view 38 = .ok (.iconst 1, 1) := by decide +kernel
theorem dX6_view_39 : decode cX6_view 39 = .ok (.goto 4, 3) := by decide +kernel
theorem dX6_view_42 : decode cX6_view 42 = .ok (.iconst 0, 1) := by decide +kernel
theorem dX6_view_43 : decode cX6_view 43 = .ok (.istore 5, 2) := by decide +kernel
theorem dX6_view_45 : decode cX6_view 45 = .ok (.aload_n 0, 1) := by decide +kernel
theorem dX6_view_46 : decode cX6_view 46 = .ok (.iload 5, 2) := by decide +kernel
theorem dX6_view_48 : decode cX6_view 48 = .ok (.ifCond .eq 7, 3) := by decide +kernel
theorem dX6_view_51 : decode cX6_view 51 = .ok (.iconst 0, 1) := by decide +kernel
theorem dX6_view_52 : decode cX6_view 52 = .ok (.goto 4, 3) := by decide +kernel
theorem dX6_view_55 : decode cX6_view 55 = .ok (.iconst 1, 1) := by decide +kernel
theorem dX6_view_56 : decode cX6_view 56 = .ok (.putfield 74, 3) := by decide +kernel
theorem dX6_view_59 : decode cX6_view 59 = .ok (.aload_n 0, 1) := by decide +kernel
theorem dX6_view_60 : decode cX6_view 60 = .ok (.getfield 74, 3) := by decide +kernel
theorem dX6_view_63 : decode cX6_view 63 = .ok (.ifCond .ne 25, 3) := by decide +kernel
theorem dX6_view_66 : decode cX6_view 66 = .ok (.aload_n 0, 1) := by decide +kernel
theorem dX6_view_67 : decode cX6_view 67 = .ok (.getfield 59, 3) := by decide +kernel
theorem dX6_view_70 : decode cX6_view 70 = .ok (.iload_n 1, 1) := by decide +kernel
theorem dX6_view_71 : decode cX6_view 71 = .ok (.iload_n 2, 1) := by decide +kernel
theorem dX6_view_72 : decode cX6_view 72 = .ok (.iastore, 1) := by decide +kernel
theorem dX6_view_73 : decode cX6_view 73 = .ok (.aload_n 0, 1) := by decide +kernel
theorem dX6_view_74 : decode cX6_view 74 = .ok (.getfield 62, 3) := by decide +kernel
theorem dX6_view_77 : decode cX6_view 77 = .ok (.iload_n 1, 1) := by decide +kernel
theorem dX6_view_78 : decode cX6_view 78 = .ok (.iload_n 3, 1) := by decide +kernel
theorem dX6_view_79 : decode cX6_view 79 = .ok (.iastore, 1) := by decide +kernel
theorem dX6_view_80 : decode cX6_view 80 = .ok (.aload_n 0, 1) := by decide +kernel
theorem dX6_view_81 : decode cX6_view 81 = .ok (.getfield 65, 3) := by decide +kernel
theorem dX6_view_84 : decode cX6_view 84 = .ok (.iload_n 1, 1) := by decide +kernel
theorem dX6_view_85 : decode cX6_view 85 = .ok (.iload 4, 2) := by decide +kernel
theorem dX6_view_87 : decode cX6_view 87 = .ok (.iastore, 1) := by decide +kernel
theorem dX6_view_88 : decode cX6_view 88 = .ok (.return_, 1) := by decide +kernel
theorem dX6_span_0 : decode cX6_span 0 = .ok (.aload_n 0, 1) := by decide +kernel
theorem dX6_span_1 : decode cX6_span 1 = .ok (.iload_n 1, 1) := by decide +kernel
theorem dX6_span_2 : decode cX6_span 2 = .ok (.iconst 0, 1) := by decide +kernel
theorem dX6_span_3 : decode cX6_span 3 = .ok (.iconst 3, 1) := by decide +kernel
theorem dX6_span_4 : decode cX6_span 4 = .ok (.invokestatic 81, 3) := by decide +kernel
theorem dX6_span_7 : decode cX6_span 7 = .ok (.ifCond .eq 18, 3) := by decide +kernel
theorem dX6_span_10 : decode cX6_span 10 = .ok (.iload_n 2, 1) := by decide +kernel
theorem dX6_span_11 : decode cX6_span 11 = .ok (.iconst 0, 1) := by decide +kernel
theorem dX6_span_12 : decode cX6_span 12 = .ok (.sipush 9999, 3) := by decide +kernel
theorem dX6_span_15 : decode cX6_span 15 = .ok (.invokestatic 81, 3) := by decide +kernel
theorem dX6_span_18 : decode cX6_span 18 = .ok (.ifCond .eq 7, 3) := by decide +kernel
theorem dX6_span_21 : decode cX6_span 21 = .ok (.iconst 0, 1) := by decide +kernel
theorem dX6_span_22 : decode cX6_span 22 = .ok (.goto 4, 3) := by decide +kernel
theorem dX6_span_25 : decode cX6_span 25 = .ok (.iconst 1, 1) := by decide +kernel
theorem dX6_span_26 : decode cX6_span 26 = .ok (.putfield 74, 3) := by decide +kernel
theorem dX6_span_29 : decode cX6_span 29 = .ok (.aload_n 0, 1) := by decide +kernel
theorem dX6_span_30 : decode cX6_span 30 = .ok (.getfield 74, 3) := by decide +kernel
theorem dX6_span_33 : decode cX6_span 33 = .ok (.ifCond .le 5, 3) := by decide +kernel
theorem dX6_span_36 : decode cX6_span 36 = .ok (.iconst 0, 1) := by decide +kernel
theorem dX6_span_37 : decode cX6_span 37 = .ok (.ireturn, 1) := by decide +kernel
theorem dX6_span_38 : decode cX6_span 38 = .ok (.aload_n 0, 1) := by decide +kernel
theorem dX6_span_39 : decode cX6_span 39 = .ok (.getfield 68, 3) := by decide +kernel
theorem dX6_span_42 : decode cX6_span 42 = .ok (.iload_n 1, 1) := by decide +kernel
theorem dX6_span_43 : decode cX6_span 43 = .ok (.iaload, 1) := by decide +kernel
theorem dX6_span_44 : decode cX6_span 44 = .ok (.istore_n 3, 1) := by decide +kernel
theorem dX6_span_45 : decode cX6_span 45 = .ok (.aload_n 0, 1) := by decide +kernel
theorem dX6_span_46 : decode cX6_span 46 = .ok (.getfield 68, 3) := by decide +kernel
theorem dX6_span_49 : decode cX6_span 49 = .ok (.iload_n 1, 1) := by decide +kernel
theorem dX6_span_50 : decode cX6_span 50 = .ok (.iload_n 2, 1) := by decide +kernel
theorem dX6_span_51 : decode cX6_span 51 = .ok (.iastore, 1) := by decide +kernel
theorem dX6_span_52 : decode cX6_span 52 = .ok (.iload_n 3, 1) := by decide +kernel
theorem dX6_span_53 : decode cX6_span 53 = .ok (.ireturn, 1) := by decide +kernel
theorem dX6_hold_0 : decode cX6_hold 0 = .ok (.aload_n 0, 1) := by decide +kernel
theorem dX6_hold_1 : decode cX6_hold 1 = .ok (.iload_n 1, 1) := by decide +kernel
theorem dX6_hold_2 : decode cX6_hold 2 = .ok (.iconst 0, 1) := by decide +kernel
theorem dX6_hold_3 : decode cX6_hold 3 = .ok (.bipush 99, 2) := by decide +kernel
theorem dX6_hold_5 : decode cX6_hold 5 = .ok (.invokestatic 81, 3) := by decide +kernel
theorem dX6_hold_8 : decode cX6_hold 8 = .ok (.ifCond .eq 7, 3) := by decide +kernel
theorem dX6_hold_11 : decode cX6_hold 11 = .ok (.iconst 0, 1) := by decide +kernel
theorem dX6_hold_12 : decode cX6_hold 12 = .ok (.goto 4, 3) := by decide +kernel
theorem dX6_hold_15 : decode cX6_hold 15 = .ok (.iconst 1, 1) := by decide +kernel
theorem dX6_hold_16 : decode cX6_hold 16 = .ok (.putfield 74, 3) := by decide +kernel
theorem dX6_hold_19 : decode cX6_hold 19 = .ok (.aload_n 0, 1) := by decide +kernel
theorem dX6_hold_20 : decode cX6_hold 20 = .ok (.getfield 74, 3) := by decide +kernel
theorem dX6_hold_23 : decode cX6_hold 23 = .ok (.ifCond .le 5, 3) := by decide +kernel
theorem dX6_hold_26 : decode cX6_hold 26 = .ok (.iconst 0, 1) := by decide +kernel
theorem dX6_hold_27 : decode cX6_hold 27 = .ok (.ireturn, 1) := by decide +kernel
theorem dX6_hold_28 : decode cX6_hold 28 = .ok (.aload_n 0, 1) := by decide +kernel
theorem dX6_hold_29 : decode cX6_hold 29 = .ok (.getfield 71, 3) := by decide +kernel
theorem dX6_hold_32 : decode cX6_hold 32 = .ok (.iload_n 1, 1) := by decide +kernel
theorem dX6_hold_33 : decode cX6_hold 33 = .ok (.baload, 1) := by decide +kernel
theorem dX6_hold_34 : decode cX6_hold 34 = .ok (.istore_n 3, 1) := by decide +kernel
theorem dX6_hold_35 : decode cX6_hold 35 = .ok (.aload_n 0, 1) := by decide +kernel
theorem dX6_hold_36 : decode cX6_hold 36 = .ok (.getfield 71, 3) := by decide +kernel
theorem dX6_hold_39 : decode cX6_hold 39 = .ok (.iload_n 1, 1) := by decide +kernel
theorem dX6_hold_40 : decode cX6_hold 40 = .ok (.iload_n 2, 1) := by decide +kernel
theorem dX6_hold_41 : decode cX6_hold 41 = .ok (.bastore, 1) := by decide +kernel
theorem dX6_hold_42 : decode cX6_hold 42 = .ok (.iload_n 3, 1) := by decide +kernel
theorem dX6_hold_43 : decode cX6_hold 43 = .ok (.ireturn, 1) := by decide +kernel
theorem dX6_clear_0 : decode cX6_clear 0 = .ok (.aload_n 0, 1) := by decide +kernel
theorem dX6_clear_1 : decode cX6_clear 1 = .ok (.iconst 0, 1) := by decide +kernel
theorem dX6_clear_2 : decode cX6_clear 2 = .ok (.putfield 74, 3) := by decide +kernel
theorem dX6_clear_5 : decode cX6_clear 5 = .ok (.iconst 0, 1) := by decide +kernel
theorem dX6_clear_6 : decode cX6_clear 6 = .ok (.istore_n 1, 1) := by decide +kernel
theorem dX6_clear_7 : decode cX6_clear 7 = .ok (.iconst 0, 1) := by decide +kernel
theorem dX6_clear_8 : decode cX6_clear 8 = .ok (.istore_n 2, 1) := by decide +kernel
theorem dX6_clear_9 : decode cX6_clear 9 = .ok (.iload_n 2, 1) := by decide +kernel
theorem dX6_clear_10 : decode cX6_clear 10 = .ok (.aload_n 0, 1) := by decide +kernel
theorem dX6_clear_11 : decode cX6_clear 11 = .ok (.getfield 107, 3) := by decide +kernel
theorem dX6_clear_14 : decode cX6_clear 14 = .ok (.if_icmp .ge 87, 3) := by decide +kernel
theorem dX6_clear_17 : decode cX6_clear 17 = .ok (.aload_n 0, 1) := by decide +kernel
theorem dX6_clear_18 : decode cX6_clear 18 = .ok (.getfield 46, 3) := by decide +kernel
theorem dX6_clear_21 : decode cX6_clear 21 = .ok (.iload_n 2, 1) := by decide +kernel
theorem dX6_clear_22 : decode cX6_clear 22 = .ok (.iaload, 1) := by decide +kernel
theorem dX6_clear_23 : decode cX6_clear 23 = .ok (.iconst (-1), 1) := by decide +kernel
theorem dX6_clear_24 : decode cX6_clear 24 = .ok (.if_icmp .eq 21, 3) := by decide +kernel
theorem dX6_clear_27 : decode cX6_clear 27 = .ok (.aload_n 0, 1) := by decide +kernel
theorem dX6_clear_28 : decode cX6_clear 28 = .ok (.getfield 71, 3) := by decide +kernel
theorem dX6_clear_31 : decode cX6_clear 31 = .ok (.aload_n 0, 1) := by decide +kernel
theorem dX6_clear_32 : decode cX6_clear 32 = .ok (.getfield 46, 3) := by decide +kernel
theorem dX6_clear_35 : decode cX6_clear 35 = .ok (.iload_n 2, 1) := by decide +kernel
theorem dX6_clear_36 : decode cX6_clear 36 = .ok (.iaload, 1) := by decide +kernel
theorem dX6_clear_37 : decode cX6_clear 37 = .ok (.baload, 1) := by decide +kernel
theorem dX6_clear_38 : decode cX6_clear 38 = .ok (.ifCond .eq 7, 3) := by decide +kernel
theorem dX6_clear_41 : decode cX6_clear 41 = .ok (.iconst 1, 1) := by decide +kernel
theorem dX6_clear_42 : decode cX6_clear 42 = .ok (.goto 4, 3) := by decide +kernel
theorem dX6_clear_45 : decode cX6_clear 45 = .ok (.iconst 0, 1) := by decide +kernel
theorem dX6_clear_46 : decode cX6_clear 46 = .ok (.istore_n 3, 1) := by decide +kernel
theorem dX6_clear_47 : decode cX6_clear 47 = .ok (.aload_n 0, 1) := by decide +kernel
theorem dX6_clear_48 : decode cX6_clear 48 = .ok (.getfield 55, 3) := by decide +kernel
theorem dX6_clear_51 : decode cX6_clear 51 = .ok (.iload_n 2, 1) := by decide +kernel
theorem dX6_clear_52 : decode cX6_clear 52 = .ok (.baload, 1) := by decide +kernel
theorem dX6_clear_53 : decode cX6_clear 53 = .ok (.ifCond .ne 42, 3) := by decide +kernel
theorem dX6_clear_56 : decode cX6_clear 56 = .ok (.iload_n 3, 1) := by decide +kernel
theorem dX6_clear_57 : decode cX6_clear 57 = .ok (.ifCond .ne 38, 3) := by decide +kernel
theorem dX6_clear_60 : decode cX6_clear 60 = .ok (.aload_n 0, 1) := by decide +kernel
theorem dX6_clear_61 : decode cX6_clear 61 = .ok (.getfield 85, 3) := by decide +kernel
theorem dX6_clear_64 : decode cX6_clear 64 = .ok (.aload_n 0, 1) := by decide +kernel
theorem dX6_clear_65 : decode cX6_clear 65 = .ok (.getfield 52, 3) := by decide +kernel
theorem dX6_clear_68 : decode cX6_clear 68 = .ok (.iload_n 2, 1) := by decide +kernel
theorem dX6_clear_69 : decode cX6_clear 69 = .ok (.iaload, 1) := by decide +kernel
theorem dX6_clear_70 : decode cX6_clear 70 = .ok (.aload_n 0, 1) := by decide +kernel
theorem dX6_clear_71 : decode cX6_clear 71 = .ok (.getfield 68, 3) := by decide +kernel
theorem dX6_clear_74 : decode cX6_clear 74 = .ok (.aload_n 0, 1) := by decide +kernel
theorem dX6_clear_75 : decode cX6_clear 75 = .ok (.getfield 49, 3) := by decide +kernel
theorem dX6_clear_78 : decode cX6_clear 78 = .ok (.iload_n 2, 1) := by decide +kernel
theorem dX6_clear_79 : decode cX6_clear 79 = .ok (.iaload, 1) := by decide +kernel
theorem dX6_clear_80 : decode cX6_clear 80 = .ok (.iaload, 1) := by decide +kernel
theorem dX6_clear_81 : decode cX6_clear 81 = .ok (.iadd, 1) := by decide +kernel
theorem dX6_clear_82 : decode cX6_clear 82 = .ok (.if_icmp .le 13, 3) := by decide +kernel
theorem dX6_clear_85 : decode cX6_clear 85 = .ok (.aload_n 0, 1) := by decide +kernel
theorem dX6_clear_86 : decode cX6_clear 86 = .ok (.getfield 55, 3) := by decide +kernel
theorem dX6_clear_89 : decode cX6_clear 89 = .ok (.iload_n 2, 1) := by decide +kernel
theorem dX6_clear_90 : decode cX6_clear 90 = .ok (.iconst 1, 1) := by decide +kernel
theorem dX6_clear_91 : decode cX6_clear 91 = .ok (.bastore, 1) := by decide +kernel
theorem dX6_clear_92 : decode cX6_clear 92 = .ok (.iinc 1 1, 3) := by decide +kernel
theorem dX6_clear_95 : decode cX6_clear 95 = .ok (.iinc 2 1, 3) := by decide +kernel
theorem dX6_clear_98 : decode cX6_clear 98 = .ok (.goto (-89), 3) := by decide +kernel
theorem dX6_clear_101 : decode cX6_clear 101 = .ok (.iload_n 1, 1) := by decide +kernel
theorem dX6_clear_102 : decode cX6_clear 102 = .ok (.ireturn, 1) := by decide +kernel
theorem dX6_bundle_0 : decode cX6_bundle 0 = .ok (.aload_n 0, 1) := by decide +kernel
theorem dX6_bundle_1 : decode cX6_bundle 1 = .ok (.iload_n 1, 1) := by decide +kernel
theorem dX6_bundle_2 : decode cX6_bundle 2 = .ok (.invokestatic 135, 3) := by decide +kernel
theorem dX6_bundle_5 : decode cX6_bundle 5 = .ok (.ifCond .eq 17, 3) := by decide +kernel
theorem dX6_bundle_8 : decode cX6_bundle 8 = .ok (.iload_n 2, 1) := by decide +kernel
theorem dX6_bundle_9 : decode cX6_bundle 9 = .ok (.iconst 0, 1) := by decide +kernel
theorem dX6_bundle_10 : decode cX6_bundle 10 = .ok (.bipush 99, 2) := by decide +kernel
theorem dX6_bundle_12 : decode cX6_bundle 12 = .ok (.invokestatic 81, 3) := by decide +kernel
theorem dX6_bundle_15 : decode cX6_bundle 15 = .ok (.ifCond .eq 7, 3) := by decide +kernel
theorem dX6_bundle_18 : decode cX6_bundle 18 = .ok (.iconst 0, 1) := by decide +kernel
theorem dX6_bundle_19 : decode cX6_bundle 19 = .ok (.goto 4, 3) := by decide +kernel
theorem dX6_bundle_22 : decode cX6_bundle 22 = .ok (.iconst 1, 1) := by decide +kernel
theorem dX6_bundle_23 : decode cX6_bundle 23 = .ok (.putfield 74, 3) := by decide +kernel
theorem dX6_bundle_26 : decode cX6_bundle 26 = .ok (.iconst 0, 1) := by decide +kernel
theorem dX6_bundle_27 : decode cX6_bundle 27 = .ok (.istore_n 3, 1) := by decide +kernel
theorem dX6_bundle_28 : decode cX6_bundle 28 = .ok (.iconst 0, 1) := by decide +kernel
theorem dX6_bundle_29 : decode cX6_bundle 29 = .ok (.istore 4, 2) := by decide +kernel
theorem dX6_bundle_31 : decode cX6_bundle 31 = .ok (.iload 4, 2) := by decide +kernel
theorem dX6_bundle_33 : decode cX6_bundle 33 = .ok (.aload_n 0, 1) := by decide +kernel
theorem dX6_bundle_34 : decode cX6_bundle 34 = .ok (.getfield 107, 3) := by decide +kernel
theorem dX6_bundle_37 : decode cX6_bundle 37 = .ok (.if_icmp .ge 51, 3) := by decide +kernel
theorem dX6_bundle_40 : decode cX6_bundle 40 = .ok (.aload_n 0, 1) := by decide +kernel
theorem dX6_bundle_41 : decode cX6_bundle 41 = .ok (.getfield 74, 3) := by decide +kernel
theorem dX6_bundle_44 : decode cX6_bundle 44 = .ok (.ifCond .ne 44, 3) := by decide +kernel
theorem dX6_bundle_47 : decode cX6_bundle 47 = .ok (.iload_n 3, 1) := by decide +kernel
theorem dX6_bundle_48 : decode cX6_bundle 48 = .ok (.aload_n 0, 1) := by decide +kernel
theorem dX6_bundle_49 : decode cX6_bundle 49 = .ok (.iload_n 1, 1) := by decide +kernel
theorem dX6_bundle_50 : decode cX6_bundle 50 = .ok (.iload 4, 2) := by decide +kernel
theorem dX6_bundle_52 : decode cX6_bundle 52 = .ok (.invokevirtual 138, 3) := by decide +kernel
theorem dX6_bundle_55 : decode cX6_bundle 55 = .ok (.ifCond .eq 24, 3) := by decide +kernel
theorem dX6_bundle_58 : decode cX6_bundle 58 = .ok (.aload_n 0, 1) := by decide +kernel
theorem dX6_bundle_59 : decode cX6_bundle 59 = .ok (.getfield 46, 3) := by decide +kernel
theorem dX6_bundle_62 : decode cX6_bundle 62 = .ok (.iload 4, 2) := by decide +kernel
theorem dX6_bundle_64 : decode cX6_bundle 64 = .ok (.iaload, 1) := by decide +kernel
theorem dX6_bundle_65 : decode cX6_bundle 65 = .ok (.iload_n 2, 1) := by decide +kernel
theorem dX6_bundle_66 : decode cX6_bundle 66 = .ok (.if_icmp .ne 13, 3) := by decide +kernel
theorem dX6_bundle_69 : decode cX6_bundle 69 = .ok (.aload_n 0, 1) := by decide +kernel
theorem dX6_bundle_70 : decode cX6_bundle 70 = .ok (.getfield 43, 3) := by decide +kernel
theorem dX6_bundle_73 : decode cX6_bundle 73 = .ok (.iload 4, 2) := by decide +kernel
theorem dX6_bundle_75 : decode cX6_bundle 75 = .ok (.iaload, 1) := by decide +kernel
theorem dX6_bundle_76 : decode cX6_bundle 76 = .ok (.goto 4, 3) := by decide +kernel
theorem dX6_bundle_79 : decode cX6_bundle 79 = .ok (.iconst 0, 1) := by decide +kernel
theorem dX6_bundle_80 : decode cX6_bundle 80 = .ok (.iadd, 1) := by decide +kernel
theorem dX6_bundle_81 : decode cX6_bundle 81 = .ok (.istore_n 3, 1) := by decide +kernel
theorem dX6_bundle_82 : decode cX6_bundle 82 = .ok (.iinc 4 1, 3) := by decide +kernel
theorem dX6_bundle_85 : decode cX6_bundle 85 = .ok (.goto (-54), 3) := by decide +kernel
theorem dX6_bundle_88 : decode cX6_bundle 88 = .ok (.iload_n 3, 1) := by decide +kernel
theorem dX6_bundle_89 : decode cX6_bundle 89 = .ok (.ireturn, 1) := by decide +kernel
theorem dJ9_max_7cf53_0 : decode cJ9_max_7cf53 0 = .ok (.iload_n 0, 1) := by decide +kernel
theorem dJ9_max_7cf53_1 : decode cJ9_max_7cf53 1 = .ok (.iload_n 1, 1) := by decide +kernel
theorem dJ9_max_7cf53_2 : decode cJ9_max_7cf53 2 = .ok (.if_icmp .lt 7, 3) := by decide +kernel
theorem dJ9_max_7cf53_5 : decode cJ9_max_7cf53 5 = .ok (.iload_n 0, 1) := by decide +kernel
theorem dJ9_max_7cf53_6 : decode cJ9_max_7cf53 6 = .ok (.goto 4, 3) := by decide +kernel
theorem dJ9_max_7cf53_9 : decode cJ9_max_7cf53 9 = .ok (.iload_n 1, 1) := by decide +kernel
theorem dJ9_max_7cf53_10 : decode cJ9_max_7cf53 10 = .ok (.ireturn, 1) := by decide +kernel
theorem dJ9_min_7cf53_0 : decode cJ9_min_7cf53 0 = .ok (.iload_n 0, 1) := by decide +kernel
theorem dJ9_min_7cf53_1 : decode cJ9_min_7cf53 1 = .ok (.iload_n 1, 1) := by decide +kernel
theorem dJ9_min_7cf53_2 : decode cJ9_min_7cf53 2 = .ok (.if_icmp .gt 7, 3) := by decide +kernel
theorem dJ9_min_7cf53_5 : decode cJ9_min_7cf53 5 = .ok (.iload_n 0, 1) := by decide +kernel
theorem dJ9_min_7cf53_6 : decode cJ9_min_7cf53 6 = .ok (.goto 4, 3) := by decide +kernel
theorem dJ9_min_7cf53_9 : decode cJ9_min_7cf53 9 = .ok (.iload_n 1, 1) := by decide +kernel
theorem dJ9_min_7cf53_10 : decode cJ9_min_7cf53 10 = .ok (.ireturn, 1) := by decide +kernel
theorem dJxa1e45_init_da8c8_0 : decode cJxa1e45_init_da8c8 0 = .ok (.aload_n 0, 1) := by decide +kernel
theorem dJxa1e45_init_da8c8_1 : decode cJxa1e45_init_da8c8 1 = .ok (.invokespecial 1, 3) := by decide +kernel
theorem dJxa1e45_init_da8c8_4 : decode cJxa1e45_init_da8c8 4 = .ok (.return_, 1) := by decide +kernel
theorem dJxc12de_init_da8c8_0 : decode cJxc12de_init_da8c8 0 = .ok (.aload_n 0, 1) := by decide +kernel
theorem dJxc12de_init_da8c8_1 : decode cJxc12de_init_da8c8 1 = .ok (.invokespecial 1, 3) := by decide +kernel
theorem dJxc12de_init_da8c8_4 : decode cJxc12de_init_da8c8 4 = .ok (.aload_n 0, 1) := by decide +kernel
theorem dJxc12de_init_da8c8_5 : decode cJxc12de_init_da8c8 5 = .ok (.iconst 0, 1) := by decide +kernel
theorem dJxc12de_init_da8c8_6 : decode cJxc12de_init_da8c8 6 = .ok (.putfield 7, 3) := by decide +kernel
theorem dJxc12de_init_da8c8_9 : decode cJxc12de_init_da8c8 9 = .ok (.return_, 1) := by decide +kernel
theorem dJx4a65c_init_da8c8_0 : decode cJx4a65c_init_da8c8 0 = .ok (.aload_n 0, 1) := by decide +kernel
theorem dJx4a65c_init_da8c8_1 : decode cJx4a65c_init_da8c8 1 = .ok (.invokespecial 1, 3) := by decide +kernel
theorem dJx4a65c_init_da8c8_4 : decode cJx4a65c_init_da8c8 4 = .ok (.aload_n 0, 1) := by decide +kernel
theorem dJx4a65c_init_da8c8_5 : decode cJx4a65c_init_da8c8 5 = .ok (.getstatic 39, 3) := by decide +kernel
theorem dJx4a65c_init_da8c8_8 : decode cJx4a65c_init_da8c8 8 = .ok (.putfield 9, 3) := by decide +kernel
theorem dJx4a65c_init_da8c8_11 : decode cJx4a65c_init_da8c8 11 = .ok (.return_, 1) := by decide +kernel
theorem dJx4a65c_grow_92f84_0 : decode cJx4a65c_grow_92f84 0 = .ok (.aload_n 0, 1) := by decide +kernel
theorem dJx4a65c_grow_92f84_1 : decode cJx4a65c_grow_92f84 1 = .ok (.getfield 9, 3) := by decide +kernel
theorem dJx4a65c_grow_92f84_4 : decode cJx4a65c_grow_92f84 4 = .ok (.arraylength, 1) := by decide +kernel
theorem dJx4a65c_grow_92f84_5 : decode cJx4a65c_grow_92f84 5 = .ok (.istore_n 2, 1) := by decide +kernel
theorem dJx4a65c_grow_92f84_6 : decode cJx4a65c_grow_92f84 6 = .ok (.iload_n 2, 1) := by decide +kernel
theorem dJx4a65c_grow_92f84_7 : decode cJx4a65c_grow_92f84 7 = .ok (.ifCond .gt 13, 3) := by decide +kernel
theorem dJx4a65c_grow_92f84_10 : decode cJx4a65c_grow_92f84 10 = .ok (.aload_n 0, 1) := by decide +kernel
theorem dJx4a65c_grow_92f84_11 : decode cJx4a65c_grow_92f84 11 = .ok (.getfield 9, 3) := by decide +kernel
theorem dJx4a65c_grow_92f84_14 : decode cJx4a65c_grow_92f84 14 = .ok (.getstatic 39, 3) := by decide +kernel
theorem dJx4a65c_grow_92f84_17 : decode cJx4a65c_grow_92f84 17 = .ok (.if_acmp .eq 28, 3) := by decide +kernel
theorem dJx4a65c_grow_92f84_20 : decode cJx4a65c_grow_92f84 20 = .ok (.iload_n 2, 1) := by decide +kernel
theorem dJx4a65c_grow_92f84_21 : decode cJx4a65c_grow_92f84 21 = .ok (.iload_n 1, 1) := by decide +kernel
theorem dJx4a65c_grow_92f84_22 : decode cJx4a65c_grow_92f84 22 = .ok (.iload_n 2, 1) := by decide +kernel
theorem dJx4a65c_grow_92f84_23 : decode cJx4a65c_grow_92f84 23 = .ok (.isub, 1) := by decide +kernel
theorem dJx4a65c_grow_92f84_24 : decode cJx4a65c_grow_92f84 24 = .ok (.iload_n 2, 1) := by decide +kernel
theorem dJx4a65c_grow_92f84_25 : decode cJx4a65c_grow_92f84 25 = .ok (.iconst 1, 1) := by decide +kernel
theorem dJx4a65c_grow_92f84_26 : decode cJx4a65c_grow_92f84 26 = .ok (.ishr, 1) := by decide +kernel
theorem dJx4a65c_grow_92f84_27 : decode cJx4a65c_grow_92f84 27 = .ok (.invokestatic 73, 3) := by decide +kernel
theorem dJx4a65c_grow_92f84_30 : decode cJx4a65c_grow_92f84 30 = .ok (.istore_n 3, 1) := by decide +kernel
theorem dJx4a65c_grow_92f84_31 : decode cJx4a65c_grow_92f84 31 = .ok (.aload_n 0, 1) := by decide +kernel
theorem dJx4a65c_grow_92f84_32 : decode cJx4a65c_grow_92f84 32 = .ok (.aload_n 0, 1) := by decide +kernel
theorem dJx4a65c_grow_92f84_33 : decode cJx4a65c_grow_92f84 33 = .ok (.getfield 9, 3) := by decide +kernel
theorem dJx4a65c_grow_92f84_36 : decode cJx4a65c_grow_92f84 36 = .ok (.iload_n 3, 1) := by decide +kernel
theorem dJx4a65c_grow_92f84_37 : decode cJx4a65c_grow_92f84 37 = .ok (.invokestatic 66, 3) := by decide +kernel
theorem dJx4a65c_grow_92f84_40 : decode cJx4a65c_grow_92f84 40 = .ok (.dup_x1, 1) := by decide +kernel
theorem dJx4a65c_grow_92f84_41 : decode cJx4a65c_grow_92f84 41 = .ok (.putfield 9, 3) := by decide +kernel
theorem dJx4a65c_grow_92f84_44 : decode cJx4a65c_grow_92f84 44 = .ok (.areturn, 1) := by decide +kernel
theorem dJx4a65c_grow_92f84_45 : decode cJx4a65c_grow_92f84 45 = .ok (.aload_n 0, 1) := by decide +kernel
theorem dJx4a65c_grow_92f84_46 : decode cJx4a65c_grow_92f84 46 = .ok (.bipush 10, 2) := by decide +kernel
theorem dJx4a65c_grow_92f84_48 : decode cJx4a65c_grow_92f84 48 = .ok (.iload_n 1, 1) := by decide +kernel
theorem dJx4a65c_grow_92f84_49 : decode cJx4a65c_grow_92f84 49 = .ok (.invokestatic 79, 3) := by decide +kernel
theorem dJx4a65c_grow_92f84_52 : decode cJx4a65c_grow_92f84 52 = .ok (.anewarray 7, 3) := by decide +kernel
theorem dJx4a65c_grow_92f84_55 : decode cJx4a65c_grow_92f84 55 = .ok (.dup_x1, 1) := by decide +kernel
theorem dJx4a65c_grow_92f84_56 : decode cJx4a65c_grow_92f84 56 = .ok (.putfield 9, 3) := by decide +kernel
theorem dJx4a65c_grow_92f84_59 : decode cJx4a65c_grow_92f84 59 = .ok (.areturn, 1) := by decide +kernel
theorem dJx4a65c_grow_d5877_0 : decode cJx4a65c_grow_d5877 0 = .ok (.aload_n 0, 1) := by decide +kernel
theorem dJx4a65c_grow_d5877_1 : decode cJx4a65c_grow_d5877 1 = .ok (.aload_n 0, 1) := by decide +kernel
theorem dJx4a65c_grow_d5877_2 : decode cJx4a65c_grow_d5877 2 = .ok (.getfield 48, 3) := by decide +kernel
theorem dJx4a65c_grow_d5877_5 : decode cJx4a65c_grow_d5877 5 = .ok (.iconst 1, 1) := by decide +kernel
theorem dJx4a65c_grow_d5877_6 : decode cJx4a65c_grow_d5877 6 = .ok (.iadd, 1) := by decide +kernel
theorem dJx4a65c_grow_d5877_7 : decode cJx4a65c_grow_d5877 7 = .ok (.invokevirtual 69, 3) := by decide +kernel
theorem dJx4a65c_grow_d5877_10 : decode cJx4a65c_grow_d5877 10 = .ok (.areturn, 1) := by decide +kernel
theorem dJx4a65c_size_8abf5_0 : decode cJx4a65c_size_8abf5 0 = .ok (.aload_n 0, 1) := by decide +kernel
theorem dJx4a65c_size_8abf5_1 : decode cJx4a65c_size_8abf5 1 = .ok (.getfield 48, 3) := by decide +kernel
theorem dJx4a65c_size_8abf5_4 : decode cJx4a65c_size_8abf5 4 = .ok (.ireturn, 1) := by decide +kernel
theorem dJx4a65c_elementData_915e3_0 : decode cJx4a65c_elementData_915e3 0 = .ok (.aload_n 0, 1) := by decide +kernel
theorem dJx4a65c_elementData_915e3_1 : decode cJx4a65c_elementData_915e3 1 = .ok (.getfield 9, 3) := by decide +kernel
theorem dJx4a65c_elementData_915e3_4 : decode cJx4a65c_elementData_915e3 4 = .ok (.iload_n 1, 1) := by decide +kernel
theorem dJx4a65c_elementData_915e3_5 : decode cJx4a65c_elementData_915e3 5 = .ok (.aaload, 1) := by decide +kernel
theorem dJx4a65c_elementData_915e3_6 : decode cJx4a65c_elementData_915e3 6 = .ok (.areturn, 1) := by decide +kernel
theorem dJx4a65c_get_915e3_0 : decode cJx4a65c_get_915e3 0 = .ok (.iload_n 1, 1) := by decide +kernel
theorem dJx4a65c_get_915e3_1 : decode cJx4a65c_get_915e3 1 = .ok (.aload_n 0, 1) := by decide +kernel
theorem dJx4a65c_get_915e3_2 : decode cJx4a65c_get_915e3 2 = .ok (.getfield 48, 3) := by decide +kernel
theorem dJx4a65c_get_915e3_5 : decode cJx4a65c_get_915e3 5 = .ok (.invokestatic 118, 3) := by decide +kernel
theorem dJx4a65c_get_915e3_8 : decode cJx4a65c_get_915e3 8 = .ok (.pop, 1) := by decide +kernel
theorem dJx4a65c_get_915e3_9 : decode cJx4a65c_get_915e3 9 = .ok (.aload_n 0, 1) := by decide +kernel
theorem dJx4a65c_get_915e3_10 : decode cJx4a65c_get_915e3 10 = .ok (.iload_n 1, 1) := by decide +kernel
theorem dJx4a65c_get_915e3_11 : decode cJx4a65c_get_915e3 11 = .ok (.invokevirtual 123, 3) := by decide +kernel
theorem dJx4a65c_get_915e3_14 : decode cJx4a65c_get_915e3 14 = .ok (.areturn, 1) := by decide +kernel
theorem dJx4a65c_add_72be8_0 : decode cJx4a65c_add_72be8 0 = .ok (.iload_n 3, 1) := by decide +kernel
theorem dJx4a65c_add_72be8_1 : decode cJx4a65c_add_72be8 1 = .ok (.aload_n 2, 1) := by decide +kernel
theorem dJx4a65c_add_72be8_2 : decode cJx4a65c_add_72be8 2 = .ok (.arraylength, 1) := by decide +kernel
theorem dJx4a65c_add_72be8_3 : decode cJx4a65c_add_72be8 3 = .ok (.if_icmp .ne 8, 3) := by decide +kernel
theorem dJx4a65c_add_72be8_6 : decode cJx4a65c_add_72be8 6 = .ok (.aload_n 0, 1) := by decide +kernel
theorem dJx4a65c_add_72be8_7 : decode cJx4a65c_add_72be8 7 = .ok (.invokevirtual 129, 3) := by decide +kernel
theorem dJx4a65c_add_72be8_10 : decode cJx4a65c_add_72be8 10 = .ok (.astore_n 2, 1) := by decide +kernel
theorem dJx4a65c_add_72be8_11 : decode cJx4a65c_add_72be8 11 = .ok (.aload_n 2, 1) := by decide +kernel
theorem dJx4a65c_add_72be8_12 : decode cJx4a65c_add_72be8 12 = .ok (.iload_n 3, 1) := by decide +kernel
theorem dJx4a65c_add_72be8_13 : decode cJx4a65c_add_72be8 13 = .ok (.aload_n 1, 1) := by decide +kernel
theorem dJx4a65c_add_72be8_14 : decode cJx4a65c_add_72be8 14 = .ok (.aastore, 1) := by decide +kernel
theorem dJx4a65c_add_72be8_15 : decode cJx4a65c_add_72be8 15 = .ok (.aload_n 0, 1) := by decide +kernel
theorem dJx4a65c_add_72be8_16 : decode cJx4a65c_add_72be8 16 = .ok (.iload_n 3, 1) := by decide +kernel
theorem dJx4a65c_add_72be8_17 : decode cJx4a65c_add_72be8 17 = .ok (.iconst 1, 1) := by decide +kernel
theorem dJx4a65c_add_72be8_18 : decode cJx4a65c_add_72be8 18 = .ok (.iadd, 1) := by decide +kernel
theorem dJx4a65c_add_72be8_19 : decode cJx4a65c_add_72be8 19 = .ok (.putfield 48, 3) := by decide +kernel
theorem dJx4a65c_add_72be8_22 : decode cJx4a65c_add_72be8 22 = .ok (.return_, 1) := by decide +kernel
theorem dJx4a65c_add_9ea2d_0 : decode cJx4a65c_add_9ea2d 0 = .ok (.aload_n 0, 1) := by decide +kernel
theorem dJx4a65c_add_9ea2d_1 : decode cJx4a65c_add_9ea2d 1 = .ok (.dup, 1) := by decide +kernel
theorem dJx4a65c_add_9ea2d_2 : decode cJx4a65c_add_9ea2d 2 = .ok (.getfield 63, 3) := by decide +kernel
theorem dJx4a65c_add_9ea2d_5 : decode cJx4a65c_add_9ea2d 5 = .ok (.iconst 1, 1) := by decide +kernel
theorem dJx4a65c_add_9ea2d_6 : decode cJx4a65c_add_9ea2d 6 = .ok (.iadd, 1) := by decide +kernel
theorem dJx4a65c_add_9ea2d_7 : decode cJx4a65c_add_9ea2d 7 = .ok (.putfield 63, 3) := by decide +kernel
theorem dJx4a65c_add_9ea2d_10 : decode cJx4a65c_add_9ea2d 10 = .ok (.aload_n 0, 1) := by decide +kernel
theorem dJx4a65c_add_9ea2d_11 : decode cJx4a65c_add_9ea2d 11 = .ok (.aload_n 1, 1) := by decide +kernel
theorem dJx4a65c_add_9ea2d_12 : decode cJx4a65c_add_9ea2d 12 = .ok (.aload_n 0, 1) := by decide +kernel
theorem dJx4a65c_add_9ea2d_13 : decode cJx4a65c_add_9ea2d 13 = .ok (.getfield 9, 3) := by decide +kernel
theorem dJx4a65c_add_9ea2d_16 : decode cJx4a65c_add_9ea2d 16 = .ok (.aload_n 0, 1) := by decide +kernel
theorem dJx4a65c_add_9ea2d_17 : decode cJx4a65c_add_9ea2d 17 = .ok (.getfield 48, 3) := by decide +kernel
theorem dJx4a65c_add_9ea2d_20 : decode cJx4a65c_add_9ea2d 20 = .ok (.invokevirtual 131, 3) := by decide +kernel
theorem dJx4a65c_add_9ea2d_23 : decode cJx4a65c_add_9ea2d 23 = .ok (.iconst 1, 1) := by decide +kernel
theorem dJx4a65c_add_9ea2d_24 : decode cJx4a65c_add_9ea2d 24 = .ok (.ireturn, 1) := by decide +kernel
theorem dJ7_fill_53178_0 : decode cJ7_fill_53178 0 = .ok (.iconst 0, 1) := by decide +kernel
theorem dJ7_fill_53178_1 : decode cJ7_fill_53178 1 = .ok (.istore_n 2, 1) := by decide +kernel
theorem dJ7_fill_53178_2 : decode cJ7_fill_53178 2 = .ok (.aload_n 0, 1) := by decide +kernel
theorem dJ7_fill_53178_3 : decode cJ7_fill_53178 3 = .ok (.arraylength, 1) := by decide +kernel
theorem dJ7_fill_53178_4 : decode cJ7_fill_53178 4 = .ok (.istore_n 3, 1) := by decide +kernel
theorem dJ7_fill_53178_5 : decode cJ7_fill_53178 5 = .ok (.iload_n 2, 1) := by decide +kernel
theorem dJ7_fill_53178_6 : decode cJ7_fill_53178 6 = .ok (.iload_n 3, 1) := by decide +kernel
theorem dJ7_fill_53178_7 : decode cJ7_fill_53178 7 = .ok (.if_icmp .ge 13, 3) := by decide +kernel
theorem dJ7_fill_53178_10 : decode cJ7_fill_53178 10 = .ok (.aload_n 0, 1) := by decide +kernel
theorem dJ7_fill_53178_11 : decode cJ7_fill_53178 11 = .ok (.iload_n 2, 1) := by decide +kernel
theorem dJ7_fill_53178_12 : decode cJ7_fill_53178 12 = .ok (.iload_n 1, 1) := by decide +kernel
theorem dJ7_fill_53178_13 : decode cJ7_fill_53178 13 = .ok (.iastore, 1) := by decide +kernel
theorem dJ7_fill_53178_14 : decode cJ7_fill_53178 14 = .ok (.iinc 2 1, 3) := by decide +kernel
theorem dJ7_fill_53178_17 : decode cJ7_fill_53178 17 = .ok (.goto (-12), 3) := by decide +kernel
theorem dJ7_fill_53178_20 : decode cJ7_fill_53178 20 = .ok (.return_, 1) := by decide +kernel
theorem dJ7_copyOf_1904c_0 : decode cJ7_copyOf_1904c 0 = .ok (.aload_n 0, 1) := by decide +kernel
theorem dJ7_copyOf_1904c_1 : decode cJ7_copyOf_1904c 1 = .ok (.iload_n 1, 1) := by decide +kernel
theorem dJ7_copyOf_1904c_2 : decode cJ7_copyOf_1904c 2 = .ok (.aload_n 0, 1) := by decide +kernel
theorem dJ7_copyOf_1904c_3 : decode cJ7_copyOf_1904c 3 = .ok (.invokevirtual 86, 3) := by decide +kernel
theorem dJ7_copyOf_1904c_6 : decode cJ7_copyOf_1904c 6 = .ok (.invokestatic 300, 3) := by decide +kernel
theorem dJ7_copyOf_1904c_9 : decode cJ7_copyOf_1904c 9 = .ok (.areturn, 1) := by decide +kernel
theorem dJ7_copyOf_6403c_0 : decode cJ7_copyOf_6403c 0 = .ok (.aload_n 2, 1) := by decide +kernel
theorem dJ7_copyOf_6403c_1 : decode cJ7_copyOf_6403c 1 = .ok (.ldc 110, 2) := by decide +kernel
theorem dJ7_copyOf_6403c_3 : decode cJ7_copyOf_6403c 3 = .ok (.if_acmp .ne 10, 3) := by decide +kernel
theorem dJ7_copyOf_6403c_6 : decode cJ7_copyOf_6403c 6 = .ok (.iload_n 1, 1) := by decide +kernel
theorem dJ7_copyOf_6403c_7 : decode cJ7_copyOf_6403c 7 = .ok (.anewarray 2, 3) := by decide +kernel
theorem dJ7_copyOf_6403c_10 : decode cJ7_copyOf_6403c 10 = .ok (.goto 14, 3) := by decide +kernel
theorem dJ7_copyOf_6403c_13 : decode cJ7_copyOf_6403c 13 = .ok (.aload_n 2, 1) := by decide +kernel
theorem dJ7_copyOf_6403c_14 : decode cJ7_copyOf_6403c 14 = .ok (.invokevirtual 90, 3) := by decide +kernel
theorem dJ7_copyOf_6403c_17 : decode cJ7_copyOf_6403c 17 = .ok (.iload_n 1, 1) := by decide +kernel
theorem dJ7_copyOf_6403c_18 : decode cJ7_copyOf_6403c 18 = .ok (.invokestatic 95, 3) := by decide +kernel
theorem dJ7_copyOf_6403c_21 : decode cJ7_copyOf_6403c 21 = .ok (.checkcast 110, 3) := by decide +kernel
theorem dJ7_copyOf_6403c_24 : decode cJ7_copyOf_6403c 24 = .ok (.astore_n 3, 1) := by decide +kernel
theorem dJ7_copyOf_6403c_25 : decode cJ7_copyOf_6403c 25 = .ok (.aload_n 0, 1) := by decide +kernel
theorem dJ7_copyOf_6403c_26 : decode cJ7_copyOf_6403c 26 = .ok (.iconst 0, 1) := by decide +kernel
theorem dJ7_copyOf_6403c_27 : decode cJ7_copyOf_6403c 27 = .ok (.aload_n 3, 1) := by decide +kernel
theorem dJ7_copyOf_6403c_28 : decode cJ7_copyOf_6403c 28 = .ok (.iconst 0, 1) := by decide +kernel
theorem dJ7_copyOf_6403c_29 : decode cJ7_copyOf_6403c 29 = .ok (.aload_n 0, 1) := by decide +kernel
theorem dJ7_copyOf_6403c_30 : decode cJ7_copyOf_6403c 30 = .ok (.arraylength, 1) := by decide +kernel
theorem dJ7_copyOf_6403c_31 : decode cJ7_copyOf_6403c 31 = .ok (.iload_n 1, 1) := by decide +kernel
theorem dJ7_copyOf_6403c_32 : decode cJ7_copyOf_6403c 32 = .ok (.invokestatic 304, 3) := by decide +kernel
theorem dJ7_copyOf_6403c_35 : decode cJ7_copyOf_6403c 35 = .ok (.invokestatic 150, 3) := by decide +kernel
theorem dJ7_copyOf_6403c_38 : decode cJ7_copyOf_6403c 38 = .ok (.aload_n 3, 1) := by decide +kernel
theorem dJ7_copyOf_6403c_39 : decode cJ7_copyOf_6403c 39 = .ok (.areturn, 1) := by decide +kernel
theorem dJ15_checkIndex_7cf53_0 : decode cJ15_checkIndex_7cf53 0 = .ok (.iload_n 0, 1) := by decide +kernel
theorem dJ15_checkIndex_7cf53_1 : decode cJ15_checkIndex_7cf53 1 = .ok (.iload_n 1, 1) := by decide +kernel
theorem dJ15_checkIndex_7cf53_2 : decode cJ15_checkIndex_7cf53 2 = .ok (.aconst_null, 1) := by decide +kernel
theorem dJ15_checkIndex_7cf53_3 : decode cJ15_checkIndex_7cf53 3 = .ok (.invokestatic 105, 3) := by decide +kernel
theorem dJ15_checkIndex_7cf53_6 : decode cJ15_checkIndex_7cf53 6 = .ok (.ireturn, 1) := by decide +kernel
theorem dJ8_newLength_cabcc_0 : decode cJ8_newLength_cabcc 0 = .ok (.iload_n 0, 1) := by decide +kernel
theorem dJ8_newLength_cabcc_1 : decode cJ8_newLength_cabcc 1 = .ok (.iload_n 1, 1) := by decide +kernel
theorem dJ8_newLength_cabcc_2 : decode cJ8_newLength_cabcc 2 = .ok (.iload_n 2, 1) := by decide +kernel
theorem dJ8_newLength_cabcc_3 : decode cJ8_newLength_cabcc 3 = .ok (.invokestatic 194, 3) := by decide +kernel
theorem dJ8_newLength_cabcc_6 : decode cJ8_newLength_cabcc 6 = .ok (.iadd, 1) := by decide +kernel
theorem dJ8_newLength_cabcc_7 : decode cJ8_newLength_cabcc 7 = .ok (.istore_n 3, 1) := by decide +kernel
theorem dJ8_newLength_cabcc_8 : decode cJ8_newLength_cabcc 8 = .ok (.iconst 0, 1) := by decide +kernel
theorem dJ8_newLength_cabcc_9 : decode cJ8_newLength_cabcc 9 = .ok (.iload_n 3, 1) := by decide +kernel
theorem dJ8_newLength_cabcc_10 : decode cJ8_newLength_cabcc 10 = .ok (.if_icmp .ge 11, 3) := by decide +kernel
theorem dJ8_newLength_cabcc_13 : decode cJ8_newLength_cabcc 13 = .ok (.iload_n 3, 1) := by decide +kernel
theorem dJ8_newLength_cabcc_14 : decode cJ8_newLength_cabcc 14 = .ok (.ldc 200, 2) := by decide +kernel
theorem dJ8_newLength_cabcc_16 : decode cJ8_newLength_cabcc 16 = .ok (.if_icmp .gt 5, 3) := by decide +kernel
theorem dJ8_newLength_cabcc_19 : decode cJ8_newLength_cabcc 19 = .ok (.iload_n 3, 1) := by decide +kernel
theorem dJ8_newLength_cabcc_20 : decode cJ8_newLength_cabcc 20 = .ok (.ireturn, 1) := by decide +kernel
theorem dJ8_newLength_cabcc_21 : decode cJ8_newLength_cabcc 21 = .ok (.iload_n 0, 1) := by decide +kernel
theorem dJ8_newLength_cabcc_22 : decode cJ8_newLength_cabcc 22 = .ok (.iload_n 1, 1) := by decide +kernel
theorem dJ8_newLength_cabcc_23 : decode cJ8_newLength_cabcc 23 = .ok (.invokestatic 201, 3) := by decide +kernel
theorem dJ8_newLength_cabcc_26 : decode cJ8_newLength_cabcc 26 = .ok (.ireturn, 1) := by decide +kernel
theorem dJ8_hugeLength_7cf53_0 : decode cJ8_hugeLength_7cf53 0 = .ok (.iload_n 0, 1) := by decide +kernel
theorem dJ8_hugeLength_7cf53_1 : decode cJ8_hugeLength_7cf53 1 = .ok (.iload_n 1, 1) := by decide +kernel
theorem dJ8_hugeLength_7cf53_2 : decode cJ8_hugeLength_7cf53 2 = .ok (.iadd, 1) := by decide +kernel
theorem dJ8_hugeLength_7cf53_3 : decode cJ8_hugeLength_7cf53 3 = .ok (.istore_n 2, 1) := by decide +kernel
theorem dJ8_hugeLength_7cf53_4 : decode cJ8_hugeLength_7cf53 4 = .ok (.iload_n 2, 1) := by decide +kernel
theorem dJ8_hugeLength_7cf53_5 : decode cJ8_hugeLength_7cf53 5 = .ok (.ifCond .ge 44, 3) := by decide +kernel
theorem dJ8_hugeLength_7cf53_8 : decode cJ8_hugeLength_7cf53 8 = .ok (.new 204, 3) := by decide +kernel
theorem dJ8_hugeLength_7cf53_11 : decode cJ8_hugeLength_7cf53 11 = .ok (.dup, 1) := by decide +kernel
theorem dJ8_hugeLength_7cf53_12 : decode cJ8_hugeLength_7cf53 12 = .ok (.new 89, 3) := by decide +kernel
theorem dJ8_hugeLength_7cf53_15 : decode cJ8_hugeLength_7cf53 15 = .ok (.dup, 1) := by decide +kernel
theorem dJ8_hugeLength_7cf53_16 : decode cJ8_hugeLength_7cf53 16 = .ok (.invokespecial 91, 3) := by decide +kernel
theorem dJ8_hugeLength_7cf53_19 : decode cJ8_hugeLength_7cf53 19 = .ok (.ldc 206, 2) := by decide +kernel
theorem dJ8_hugeLength_7cf53_21 : decode cJ8_hugeLength_7cf53 21 = .ok (.invokevirtual 94, 3) := by decide +kernel
theorem dJ8_hugeLength_7cf53_24 : decode cJ8_hugeLength_7cf53 24 = .ok (.iload_n 0, 1) := by decide +kernel
theorem dJ8_hugeLength_7cf53_25 : decode cJ8_hugeLength_7cf53 25 = .ok (.invokevirtual 98, 3) := by decide +kernel
theorem dJ8_hugeLength_7cf53_28 : decode cJ8_hugeLength_7cf53 28 = .ok (.ldc 208, 2) := by decide +kernel
theorem dJ8_hugeLength_7cf53_30 : decode cJ8_hugeLength_7cf53 30 = .ok (.invokevirtual 94, 3) := by decide +kernel
theorem dJ8_hugeLength_7cf53_33 : decode cJ8_hugeLength_7cf53 33 = .ok (.iload_n 1, 1) := by decide +kernel
theorem dJ8_hugeLength_7cf53_34 : decode cJ8_hugeLength_7cf53 34 = .ok (.invokevirtual 98, 3) := by decide +kernel
theorem dJ8_hugeLength_7cf53_37 : decode cJ8_hugeLength_7cf53 37 = .ok (.ldc 210, 2) := by decide +kernel
theorem dJ8_hugeLength_7cf53_39 : decode cJ8_hugeLength_7cf53 39 = .ok (.invokevirtual 94, 3) := by decide +kernel
theorem dJ8_hugeLength_7cf53_42 : decode cJ8_hugeLength_7cf53 42 = .ok (.invokevirtual 101, 3) := by decide +kernel
theorem dJ8_hugeLength_7cf53_45 : decode cJ8_hugeLength_7cf53 45 = .ok (.invokespecial 212, 3) := by decide +kernel
theorem dJ8_hugeLength_7cf53_48 : decode cJ8_hugeLength_7cf53 48 = .ok (.athrow, 1) := by decide +kernel
theorem dJ8_hugeLength_7cf53_49 : decode cJ8_hugeLength_7cf53 49 = .ok (.iload_n 2, 1) := by decide +kernel
theorem dJ8_hugeLength_7cf53_50 : decode cJ8_hugeLength_7cf53 50 = .ok (.ldc 200, 2) := by decide +kernel
theorem dJ8_hugeLength_7cf53_52 : decode cJ8_hugeLength_7cf53 52 = .ok (.if_icmp .gt 6, 3) := by decide +kernel
theorem dJ8_hugeLength_7cf53_55 : decode cJ8_hugeLength_7cf53 55 = .ok (.ldc 200, 2) := by decide +kernel
theorem dJ8_hugeLength_7cf53_57 : decode cJ8_hugeLength_7cf53 57 = .ok (.ireturn, 1) := by decide +kernel
theorem dJ8_hugeLength_7cf53_58 : decode cJ8_hugeLength_7cf53 58 = .ok (.iload_n 2, 1) := by decide +kernel
theorem dJ8_hugeLength_7cf53_59 : decode cJ8_hugeLength_7cf53 59 = .ok (.ireturn, 1) := by decide +kernel
theorem dJ3_checkIndex_8e157_0 : decode cJ3_checkIndex_8e157 0 = .ok (.iload_n 0, 1) := by decide +kernel
theorem dJ3_checkIndex_8e157_1 : decode cJ3_checkIndex_8e157 1 = .ok (.ifCond .lt 8, 3) := by decide +kernel
theorem dJ3_checkIndex_8e157_4 : decode cJ3_checkIndex_8e157 4 = .ok (.iload_n 0, 1) := by decide +kernel
theorem dJ3_checkIndex_8e157_5 : decode cJ3_checkIndex_8e157 5 = .ok (.iload_n 1, 1) := by decide +kernel
theorem dJ3_checkIndex_8e157_6 : decode cJ3_checkIndex_8e157 6 = .ok (.if_icmp .lt 10, 3) := by decide +kernel
theorem dJ3_checkIndex_8e157_9 : decode cJ3_checkIndex_8e157 9 = .ok (.aload_n 2, 1) := by decide +kernel
theorem dJ3_checkIndex_8e157_10 : decode cJ3_checkIndex_8e157 10 = .ok (.iload_n 0, 1) := by decide +kernel
theorem dJ3_checkIndex_8e157_11 : decode cJ3_checkIndex_8e157 11 = .ok (.iload_n 1, 1) := by decide +kernel
theorem dJ3_checkIndex_8e157_12 : decode cJ3_checkIndex_8e157 12 = .ok (.invokestatic 95, 3) := by decide +kernel
theorem dJ3_checkIndex_8e157_15 : decode cJ3_checkIndex_8e157 15 = .ok (.athrow, 1) := by decide +kernel
theorem dJ3_checkIndex_8e157_16 : decode cJ3_checkIndex_8e157 16 = .ok (.iload_n 0, 1) := by decide +kernel
theorem dJ3_checkIndex_8e157_17 : decode cJ3_checkIndex_8e157 17 = .ok (.ireturn, 1) := by decide +kernel
theorem dL_pass_0 : decode cL_pass 0 = .ok (.aload_n 2, 1) := by decide +kernel
theorem dL_pass_1 : decode cL_pass 1 = .ok (.iconst 0, 1) := by decide +kernel
theorem dL_pass_2 : decode cL_pass 2 = .ok (.aload_n 0, 1) := by decide +kernel
theorem dL_pass_3 : decode cL_pass 3 = .ok (.iload_n 1, 1) := by decide +kernel
theorem dL_pass_4 : decode cL_pass 4 = .ok (.invokevirtual 7, 3) := by decide +kernel
theorem dL_pass_7 : decode cL_pass 7 = .ok (.i2l, 1) := by decide +kernel
theorem dL_pass_8 : decode cL_pass 8 = .ok (.lastore, 1) := by decide +kernel
theorem dL_pass_9 : decode cL_pass 9 = .ok (.goto 9, 3) := by decide +kernel
theorem dL_pass_12 : decode cL_pass 12 = .ok (.astore_n 3, 1) := by decide +kernel
theorem dL_pass_13 : decode cL_pass 13 = .ok (.iconst 1, 1) := by decide +kernel
theorem dL_pass_14 : decode cL_pass 14 = .ok (.ireturn, 1) := by decide +kernel
theorem dL_pass_15 : decode cL_pass 15 = .ok (.astore_n 3, 1) := by decide +kernel
theorem dL_pass_16 : decode cL_pass 16 = .ok (.iconst 2, 1) := by decide +kernel
theorem dL_pass_17 : decode cL_pass 17 = .ok (.ireturn, 1) := by decide +kernel
theorem dL_pass_18 : decode cL_pass 18 = .ok (.iconst 0, 1) := by decide +kernel
theorem dL_pass_19 : decode cL_pass 19 = .ok (.ireturn, 1) := by decide +kernel
theorem dL_format_0 : decode cL_format 0 = .ok (.aload 4, 2) := by decide +kernel
theorem dL_format_2 : decode cL_format 2 = .ok (.iconst 0, 1) := by decide +kernel
theorem dL_format_3 : decode cL_format 3 = .ok (.aload_n 0, 1) := by decide +kernel
theorem dL_format_4 : decode cL_format 4 = .ok (.iload_n 1, 1) := by decide +kernel
theorem dL_format_5 : decode cL_format 5 = .ok (.iload_n 2, 1) := by decide +kernel
theorem dL_format_6 : decode cL_format 6 = .ok (.iload_n 3, 1) := by decide +kernel
theorem dL_format_7 : decode cL_format 7 = .ok (.invokevirtual 17, 3) := by decide +kernel
theorem dL_format_10 : decode cL_format 10 = .ok (.i2l, 1) := by decide +kernel
theorem dL_format_11 : decode cL_format 11 = .ok (.lastore, 1) := by decide +kernel
theorem dL_format_12 : decode cL_format 12 = .ok (.goto 11, 3) := by decide +kernel
theorem dL_format_15 : decode cL_format 15 = .ok (.astore 5, 2) := by decide +kernel
theorem dL_format_17 : decode cL_format 17 = .ok (.iconst 1, 1) := by decide +kernel
theorem dL_format_18 : decode cL_format 18 = .ok (.ireturn, 1) := by decide +kernel
theorem dL_format_19 : decode cL_format 19 = .ok (.astore 5, 2) := by decide +kernel
theorem dL_format_21 : decode cL_format 21 = .ok (.iconst 2, 1) := by decide +kernel
theorem dL_format_22 : decode cL_format 22 = .ok (.ireturn, 1) := by decide +kernel
theorem dL_format_23 : decode cL_format 23 = .ok (.iconst 0, 1) := by decide +kernel
theorem dL_format_24 : decode cL_format 24 = .ok (.ireturn, 1) := by decide +kernel
theorem dL_line_0 : decode cL_line 0 = .ok (.aload_n 2, 1) := by decide +kernel
theorem dL_line_1 : decode cL_line 1 = .ok (.iconst 0, 1) := by decide +kernel
theorem dL_line_2 : decode cL_line 2 = .ok (.aload_n 0, 1) := by decide +kernel
theorem dL_line_3 : decode cL_line 3 = .ok (.iload_n 1, 1) := by decide +kernel
theorem dL_line_4 : decode cL_line 4 = .ok (.invokevirtual 21, 3) := by decide +kernel
theorem dL_line_7 : decode cL_line 7 = .ok (.i2l, 1) := by decide +kernel
theorem dL_line_8 : decode cL_line 8 = .ok (.lastore, 1) := by decide +kernel
theorem dL_line_9 : decode cL_line 9 = .ok (.goto 9, 3) := by decide +kernel
theorem dL_line_12 : decode cL_line 12 = .ok (.astore_n 3, 1) := by decide +kernel
theorem dL_line_13 : decode cL_line 13 = .ok (.iconst 1, 1) := by decide +kernel
theorem dL_line_14 : decode cL_line 14 = .ok (.ireturn, 1) := by decide +kernel
theorem dL_line_15 : decode cL_line 15 = .ok (.astore_n 3, 1) := by decide +kernel
theorem dL_line_16 : decode cL_line 16 = .ok (.iconst 2, 1) := by decide +kernel
theorem dL_line_17 : decode cL_line 17 = .ok (.ireturn, 1) := by decide +kernel
theorem dL_line_18 : decode cL_line 18 = .ok (.iconst 0, 1) := by decide +kernel
theorem dL_line_19 : decode cL_line 19 = .ok (.ireturn, 1) := by decide +kernel
theorem dL_feed_0 : decode cL_feed 0 = .ok (.aload_n 1, 1) := by decide +kernel
theorem dL_feed_1 : decode cL_feed 1 = .ok (.iconst 0, 1) := by decide +kernel
theorem dL_feed_2 : decode cL_feed 2 = .ok (.aload_n 0, 1) := by decide +kernel
theorem dL_feed_3 : decode cL_feed 3 = .ok (.invokevirtual 24, 3) := by decide +kernel
theorem dL_feed_6 : decode cL_feed 6 = .ok (.i2l, 1) := by decide +kernel
theorem dL_feed_7 : decode cL_feed 7 = .ok (.lastore, 1) := by decide +kernel
theorem dL_feed_8 : decode cL_feed 8 = .ok (.goto 6, 3) := by decide +kernel
theorem dL_feed_11 : decode cL_feed 11 = .ok (.astore_n 2, 1) := by decide +kernel
theorem dL_feed_12 : decode cL_feed 12 = .ok (.iconst 1, 1) := by decide +kernel
theorem dL_feed_13 : decode cL_feed 13 = .ok (.ireturn, 1) := by decide +kernel
theorem dL_feed_14 : decode cL_feed 14 = .ok (.iconst 0, 1) := by decide +kernel
theorem dL_feed_15 : decode cL_feed 15 = .ok (.ireturn, 1) := by decide +kernel
theorem dL_end_0 : decode cL_end 0 = .ok (.aload_n 1, 1) := by decide +kernel
theorem dL_end_1 : decode cL_end 1 = .ok (.iconst 0, 1) := by decide +kernel
theorem dL_end_2 : decode cL_end 2 = .ok (.aload_n 0, 1) := by decide +kernel
theorem dL_end_3 : decode cL_end 3 = .ok (.invokevirtual 28, 3) := by decide +kernel
theorem dL_end_6 : decode cL_end 6 = .ok (.i2l, 1) := by decide +kernel
theorem dL_end_7 : decode cL_end 7 = .ok (.lastore, 1) := by decide +kernel
theorem dL_end_8 : decode cL_end 8 = .ok (.goto 6, 3) := by decide +kernel
theorem dL_end_11 : decode cL_end 11 = .ok (.astore_n 2, 1) := by decide +kernel
theorem dL_end_12 : decode cL_end 12 = .ok (.iconst 1, 1) := by decide +kernel
theorem dL_end_13 : decode cL_end 13 = .ok (.ireturn, 1) := by decide +kernel
theorem dL_end_14 : decode cL_end 14 = .ok (.iconst 0, 1) := by decide +kernel
theorem dL_end_15 : decode cL_end 15 = .ok (.ireturn, 1) := by decide +kernel
theorem dL_pages_0 : decode cL_pages 0 = .ok (.aload_n 2, 1) := by decide +kernel
theorem dL_pages_1 : decode cL_pages 1 = .ok (.iconst 0, 1) := by decide +kernel
theorem dL_pages_2 : decode cL_pages 2 = .ok (.aload_n 0, 1) := by decide +kernel
theorem dL_pages_3 : decode cL_pages 3 = .ok (.iload_n 1, 1) := by decide +kernel
theorem dL_pages_4 : decode cL_pages 4 = .ok (.invokevirtual 31, 3) := by decide +kernel
theorem dL_pages_7 : decode cL_pages 7 = .ok (.i2l, 1) := by decide +kernel
theorem dL_pages_8 : decode cL_pages 8 = .ok (.lastore, 1) := by decide +kernel
theorem dL_pages_9 : decode cL_pages 9 = .ok (.goto 6, 3) := by decide +kernel
theorem dL_pages_12 : decode cL_pages 12 = .ok (.astore_n 3, 1) := by decide +kernel
theorem dL_pages_13 : decode cL_pages 13 = .ok (.iconst 1, 1) := by decide +kernel
theorem dL_pages_14 : decode cL_pages 14 = .ok (.ireturn, 1) := by decide +kernel
theorem dL_pages_15 : decode cL_pages 15 = .ok (.iconst 0, 1) := by decide +kernel
theorem dL_pages_16 : decode cL_pages 16 = .ok (.ireturn, 1) := by decide +kernel
theorem dL_twice_0 : decode cL_twice 0 = .ok (.aload_n 2, 1) := by decide +kernel
theorem dL_twice_1 : decode cL_twice 1 = .ok (.iconst 0, 1) := by decide +kernel
theorem dL_twice_2 : decode cL_twice 2 = .ok (.aload_n 0, 1) := by decide +kernel
theorem dL_twice_3 : decode cL_twice 3 = .ok (.iload_n 1, 1) := by decide +kernel
theorem dL_twice_4 : decode cL_twice 4 = .ok (.invokevirtual 36, 3) := by decide +kernel
theorem dL_twice_7 : decode cL_twice 7 = .ok (.i2l, 1) := by decide +kernel
theorem dL_twice_8 : decode cL_twice 8 = .ok (.lastore, 1) := by decide +kernel
theorem dL_twice_9 : decode cL_twice 9 = .ok (.goto 6, 3) := by decide +kernel
theorem dL_twice_12 : decode cL_twice 12 = .ok (.astore_n 3, 1) := by decide +kernel
theorem dL_twice_13 : decode cL_twice 13 = .ok (.iconst 1, 1) := by decide +kernel
theorem dL_twice_14 : decode cL_twice 14 = .ok (.ireturn, 1) := by decide +kernel
theorem dL_twice_15 : decode cL_twice 15 = .ok (.iconst 0, 1) := by decide +kernel
theorem dL_twice_16 : decode cL_twice 16 = .ok (.ireturn, 1) := by decide +kernel
theorem dL_reprint_0 : decode cL_reprint 0 = .ok (.aload 4, 2) := by decide +kernel
theorem dL_reprint_2 : decode cL_reprint 2 = .ok (.iconst 0, 1) := by decide +kernel
theorem dL_reprint_3 : decode cL_reprint 3 = .ok (.aload_n 0, 1) := by decide +kernel
theorem dL_reprint_4 : decode cL_reprint 4 = .ok (.iload_n 1, 1) := by decide +kernel
theorem dL_reprint_5 : decode cL_reprint 5 = .ok (.iload_n 2, 1) := by decide +kernel
theorem dL_reprint_6 : decode cL_reprint 6 = .ok (.iload_n 3, 1) := by decide +kernel
theorem dL_reprint_7 : decode cL_reprint 7 = .ok (.invokevirtual 39, 3) := by decide +kernel
theorem dL_reprint_10 : decode cL_reprint 10 = .ok (.i2l, 1) := by decide +kernel
theorem dL_reprint_11 : decode cL_reprint 11 = .ok (.lastore, 1) := by decide +kernel
theorem dL_reprint_12 : decode cL_reprint 12 = .ok (.goto 11, 3) := by decide +kernel
theorem dL_reprint_15 : decode cL_reprint 15 = .ok (.astore 5, 2) := by decide +kernel
theorem dL_reprint_17 : decode cL_reprint 17 = .ok (.iconst 1, 1) := by decide +kernel
theorem dL_reprint_18 : decode cL_reprint 18 = .ok (.ireturn, 1) := by decide +kernel
theorem dL_reprint_19 : decode cL_reprint 19 = .ok (.astore 5, 2) := by decide +kernel
theorem dL_reprint_21 : decode cL_reprint 21 = .ok (.iconst 2, 1) := by decide +kernel
theorem dL_reprint_22 : decode cL_reprint 22 = .ok (.ireturn, 1) := by decide +kernel
theorem dL_reprint_23 : decode cL_reprint 23 = .ok (.iconst 0, 1) := by decide +kernel
theorem dL_reprint_24 : decode cL_reprint 24 = .ok (.ireturn, 1) := by decide +kernel
theorem dL_copies_0 : decode cL_copies 0 = .ok (.aload_n 3, 1) := by decide +kernel
theorem dL_copies_1 : decode cL_copies 1 = .ok (.iconst 0, 1) := by decide +kernel
theorem dL_copies_2 : decode cL_copies 2 = .ok (.aload_n 0, 1) := by decide +kernel
theorem dL_copies_3 : decode cL_copies 3 = .ok (.iload_n 1, 1) := by decide +kernel
theorem dL_copies_4 : decode cL_copies 4 = .ok (.iload_n 2, 1) := by decide +kernel
theorem dL_copies_5 : decode cL_copies 5 = .ok (.invokevirtual 42, 3) := by decide +kernel
theorem dL_copies_8 : decode cL_copies 8 = .ok (.i2l, 1) := by decide +kernel
theorem dL_copies_9 : decode cL_copies 9 = .ok (.lastore, 1) := by decide +kernel
theorem dL_copies_10 : decode cL_copies 10 = .ok (.goto 7, 3) := by decide +kernel
theorem dL_copies_13 : decode cL_copies 13 = .ok (.astore 4, 2) := by decide +kernel
theorem dL_copies_15 : decode cL_copies 15 = .ok (.iconst 1, 1) := by decide +kernel
theorem dL_copies_16 : decode cL_copies 16 = .ok (.ireturn, 1) := by decide +kernel
theorem dL_copies_17 : decode cL_copies 17 = .ok (.iconst 0, 1) := by decide +kernel
theorem dL_copies_18 : decode cL_copies 18 = .ok (.ireturn, 1) := by decide +kernel
theorem dL_isThere_0 : decode cL_isThere 0 = .ok (.aload_n 2, 1) := by decide +kernel
theorem dL_isThere_1 : decode cL_isThere 1 = .ok (.iconst 0, 1) := by decide +kernel
theorem dL_isThere_2 : decode cL_isThere 2 = .ok (.aload_n 0, 1) := by decide +kernel
theorem dL_isThere_3 : decode cL_isThere 3 = .ok (.iload_n 1, 1) := by decide +kernel
theorem dL_isThere_4 : decode cL_isThere 4 = .ok (.invokevirtual 46, 3) := by decide +kernel
theorem dL_isThere_7 : decode cL_isThere 7 = .ok (.ifCond .eq 7, 3) := by decide +kernel
theorem dL_isThere_10 : decode cL_isThere 10 = .ok (.lconst 1, 1) := by decide +kernel
theorem dL_isThere_11 : decode cL_isThere 11 = .ok (.goto 4, 3) := by decide +kernel
theorem dL_isThere_14 : decode cL_isThere 14 = .ok (.lconst 0, 1) := by decide +kernel
theorem dL_isThere_15 : decode cL_isThere 15 = .ok (.lastore, 1) := by decide +kernel
theorem dL_isThere_16 : decode cL_isThere 16 = .ok (.goto 6, 3) := by decide +kernel
theorem dL_isThere_19 : decode cL_isThere 19 = .ok (.astore_n 3, 1) := by decide +kernel
theorem dL_isThere_20 : decode cL_isThere 20 = .ok (.iconst 1, 1) := by decide +kernel
theorem dL_isThere_21 : decode cL_isThere 21 = .ok (.ireturn, 1) := by decide +kernel
theorem dL_isThere_22 : decode cL_isThere 22 = .ok (.iconst 0, 1) := by decide +kernel
theorem dL_isThere_23 : decode cL_isThere 23 = .ok (.ireturn, 1) := by decide +kernel
theorem dL_account_0 : decode cL_account 0 = .ok (.aload_n 2, 1) := by decide +kernel
theorem dL_account_1 : decode cL_account 1 = .ok (.iconst 0, 1) := by decide +kernel
theorem dL_account_2 : decode cL_account 2 = .ok (.aload_n 0, 1) := by decide +kernel
theorem dL_account_3 : decode cL_account 3 = .ok (.iload_n 1, 1) := by decide +kernel
theorem dL_account_4 : decode cL_account 4 = .ok (.invokevirtual 50, 3) := by decide +kernel
theorem dL_account_7 : decode cL_account 7 = .ok (.i2l, 1) := by decide +kernel
theorem dL_account_8 : decode cL_account 8 = .ok (.lastore, 1) := by decide +kernel
theorem dL_account_9 : decode cL_account 9 = .ok (.goto 6, 3) := by decide +kernel
theorem dL_account_12 : decode cL_account 12 = .ok (.astore_n 3, 1) := by decide +kernel
theorem dL_account_13 : decode cL_account 13 = .ok (.iconst 1, 1) := by decide +kernel
theorem dL_account_14 : decode cL_account 14 = .ok (.ireturn, 1) := by decide +kernel
theorem dL_account_15 : decode cL_account 15 = .ok (.iconst 0, 1) := by decide +kernel
theorem dL_account_16 : decode cL_account 16 = .ok (.ireturn, 1) := by decide +kernel
theorem dL_kind_0 : decode cL_kind 0 = .ok (.aload_n 2, 1) := by decide +kernel
theorem dL_kind_1 : decode cL_kind 1 = .ok (.iconst 0, 1) := by decide +kernel
theorem dL_kind_2 : decode cL_kind 2 = .ok (.aload_n 0, 1) := by decide +kernel
theorem dL_kind_3 : decode cL_kind 3 = .ok (.iload_n 1, 1) := by decide +kernel
theorem dL_kind_4 : decode cL_kind 4 = .ok (.invokevirtual 53, 3) := by decide +kernel
theorem dL_kind_7 : decode cL_kind 7 = .ok (.i2l, 1) := by decide +kernel
theorem dL_kind_8 : decode cL_kind 8 = .ok (.lastore, 1) := by decide +kernel
theorem dL_kind_9 : decode cL_kind 9 = .ok (.goto 6, 3) := by decide +kernel
theorem dL_kind_12 : decode cL_kind 12 = .ok (.astore_n 3, 1) := by decide +kernel
theorem dL_kind_13 : decode cL_kind 13 = .ok (.iconst 1, 1) := by decide +kernel
theorem dL_kind_14 : decode cL_kind 14 = .ok (.ireturn, 1) := by decide +kernel
theorem dL_kind_15 : decode cL_kind 15 = .ok (.iconst 0, 1) := by decide +kernel
theorem dL_kind_16 : decode cL_kind 16 = .ok (.ireturn, 1) := by decide +kernel
theorem dL_length_0 : decode cL_length 0 = .ok (.aload_n 2, 1) := by decide +kernel
theorem dL_length_1 : decode cL_length 1 = .ok (.iconst 0, 1) := by decide +kernel
theorem dL_length_2 : decode cL_length 2 = .ok (.aload_n 0, 1) := by decide +kernel
theorem dL_length_3 : decode cL_length 3 = .ok (.iload_n 1, 1) := by decide +kernel
theorem dL_length_4 : decode cL_length 4 = .ok (.invokevirtual 56, 3) := by decide +kernel
theorem dL_length_7 : decode cL_length 7 = .ok (.i2l, 1) := by decide +kernel
theorem dL_length_8 : decode cL_length 8 = .ok (.lastore, 1) := by decide +kernel
theorem dL_length_9 : decode cL_length 9 = .ok (.goto 6, 3) := by decide +kernel
theorem dL_length_12 : decode cL_length 12 = .ok (.astore_n 3, 1) := by decide +kernel
theorem dL_length_13 : decode cL_length 13 = .ok (.iconst 1, 1) := by decide +kernel
theorem dL_length_14 : decode cL_length 14 = .ok (.ireturn, 1) := by decide +kernel
theorem dL_length_15 : decode cL_length 15 = .ok (.iconst 0, 1) := by decide +kernel
theorem dL_length_16 : decode cL_length 16 = .ok (.ireturn, 1) := by decide +kernel
theorem dL_found_0 : decode cL_found 0 = .ok (.aload 6, 2) := by decide +kernel
theorem dL_found_2 : decode cL_found 2 = .ok (.iconst 0, 1) := by decide +kernel
theorem dL_found_3 : decode cL_found 3 = .ok (.aload_n 0, 1) := by decide +kernel
theorem dL_found_4 : decode cL_found 4 = .ok (.iload_n 1, 1) := by decide +kernel
theorem dL_found_5 : decode cL_found 5 = .ok (.iload_n 2, 1) := by decide +kernel
theorem dL_found_6 : decode cL_found 6 = .ok (.iload_n 3, 1) := by decide +kernel
theorem dL_found_7 : decode cL_found 7 = .ok (.iload 4, 2) := by decide +kernel
theorem dL_found_9 : decode cL_found 9 = .ok (.iload 5, 2) := by decide +kernel
theorem dL_found_11 : decode cL_found 11 = .ok (.invokevirtual 59, 3) := by decide +kernel
theorem dL_found_14 : decode cL_found 14 = .ok (.i2l, 1) := by decide +kernel
theorem dL_found_15 : decode cL_found 15 = .ok (.lastore, 1) := by decide +kernel
theorem dL_found_16 : decode cL_found 16 = .ok (.goto 11, 3) := by decide +kernel
theorem dL_found_19 : decode cL_found 19 = .ok (.astore 7, 2) := by decide +kernel
theorem dL_found_21 : decode cL_found 21 = .ok (.iconst 1, 1) := by decide +kernel
theorem dL_found_22 : decode cL_found 22 = .ok (.ireturn, 1) := by decide +kernel
theorem dL_found_23 : decode cL_found 23 = .ok (.astore 7, 2) := by decide +kernel
theorem dL_found_25 : decode cL_found 25 = .ok (.iconst 2, 1) := by decide +kernel
theorem dL_found_26 : decode cL_found 26 = .ok (.ireturn, 1) := by decide +kernel
theorem dL_found_27 : decode cL_found 27 = .ok (.iconst 0, 1) := by decide +kernel
theorem dL_found_28 : decode cL_found 28 = .ok (.ireturn, 1) := by decide +kernel
theorem dL_read_0 : decode cL_read 0 = .ok (.aload 5, 2) := by decide +kernel
theorem dL_read_2 : decode cL_read 2 = .ok (.iconst 0, 1) := by decide +kernel
theorem dL_read_3 : decode cL_read 3 = .ok (.aload_n 0, 1) := by decide +kernel
theorem dL_read_4 : decode cL_read 4 = .ok (.iload_n 1, 1) := by decide +kernel
theorem dL_read_5 : decode cL_read 5 = .ok (.iload_n 2, 1) := by decide +kernel
theorem dL_read_6 : decode cL_read 6 = .ok (.iload_n 3, 1) := by decide +kernel
theorem dL_read_7 : decode cL_read 7 = .ok (.iload 4, 2) := by decide +kernel
theorem dL_read_9 : decode cL_read 9 = .ok (.invokevirtual 63, 3) := by decide +kernel
theorem dL_read_12 : decode cL_read 12 = .ok (.i2l, 1) := by decide +kernel
theorem dL_read_13 : decode cL_read 13 = .ok (.lastore, 1) := by decide +kernel
theorem dL_read_14 : decode cL_read 14 = .ok (.goto 15, 3) := by decide +kernel
theorem dL_read_17 : decode cL_read 17 = .ok (.astore 6, 2) := by decide +kernel
theorem dL_read_19 : decode cL_read 19 = .ok (.iconst 1, 1) := by decide +kernel
theorem dL_read_20 : decode cL_read 20 = .ok (.ireturn, 1) := by decide +kernel
theorem dL_read_21 : decode cL_read 21 = .ok (.astore 6, 2) := by decide +kernel
theorem dL_read_23 : decode cL_read 23 = .ok (.iconst 2, 1) := by decide +kernel
theorem dL_read_24 : decode cL_read 24 = .ok (.ireturn, 1) := by decide +kernel
theorem dL_read_25 : decode cL_read 25 = .ok (.astore 6, 2) := by decide +kernel
theorem dL_read_27 : decode cL_read 27 = .ok (.iconst 3, 1) := by decide +kernel
theorem dL_read_28 : decode cL_read 28 = .ok (.ireturn, 1) := by decide +kernel
theorem dL_read_29 : decode cL_read 29 = .ok (.iconst 0, 1) := by decide +kernel
theorem dL_read_30 : decode cL_read 30 = .ok (.ireturn, 1) := by decide +kernel
theorem dL_view_0 : decode cL_view 0 = .ok (.aload_n 0, 1) := by decide +kernel
theorem dL_view_1 : decode cL_view 1 = .ok (.iload_n 1, 1) := by decide +kernel
theorem dL_view_2 : decode cL_view 2 = .ok (.iload_n 2, 1) := by decide +kernel
theorem dL_view_3 : decode cL_view 3 = .ok (.iload_n 3, 1) := by decide +kernel
theorem dL_view_4 : decode cL_view 4 = .ok (.iload 4, 2) := by decide +kernel
theorem dL_view_6 : decode cL_view 6 = .ok (.invokevirtual 69, 3) := by decide +kernel
theorem dL_view_9 : decode cL_view 9 = .ok (.goto 7, 3) := by decide +kernel
theorem dL_view_12 : decode cL_view 12 = .ok (.astore 5, 2) := by decide +kernel
theorem dL_view_14 : decode cL_view 14 = .ok (.iconst 1, 1) := by decide +kernel
theorem dL_view_15 : decode cL_view 15 = .ok (.ireturn, 1) := by decide +kernel
theorem dL_view_16 : decode cL_view 16 = .ok (.iconst 0, 1) := by decide +kernel
theorem dL_view_17 : decode cL_view 17 = .ok (.ireturn, 1) := by decide +kernel
theorem dL_span_0 : decode cL_span 0 = .ok (.aload_n 3, 1) := by decide +kernel
theorem dL_span_1 : decode cL_span 1 = .ok (.iconst 0, 1) := by decide +kernel
theorem dL_span_2 : decode cL_span 2 = .ok (.aload_n 0, 1) := by decide +kernel
theorem dL_span_3 : decode cL_span 3 = .ok (.iload_n 1, 1) := by decide +kernel
theorem dL_span_4 : decode cL_span 4 = .ok (.iload_n 2, 1) := by decide +kernel
theorem dL_span_5 : decode cL_span 5 = .ok (.invokevirtual 73, 3) := by decide +kernel
theorem dL_span_8 : decode cL_span 8 = .ok (.i2l, 1) := by decide +kernel
theorem dL_span_9 : decode cL_span 9 = .ok (.lastore, 1) := by decide +kernel
theorem dL_span_10 : decode cL_span 10 = .ok (.goto 7, 3) := by decide +kernel
theorem dL_span_13 : decode cL_span 13 = .ok (.astore 4, 2) := by decide +kernel
theorem dL_span_15 : decode cL_span 15 = .ok (.iconst 1, 1) := by decide +kernel
theorem dL_span_16 : decode cL_span 16 = .ok (.ireturn, 1) := by decide +kernel
theorem dL_span_17 : decode cL_span 17 = .ok (.iconst 0, 1) := by decide +kernel
theorem dL_span_18 : decode cL_span 18 = .ok (.ireturn, 1) := by decide +kernel
theorem dL_hold_0 : decode cL_hold 0 = .ok (.aload_n 3, 1) := by decide +kernel
theorem dL_hold_1 : decode cL_hold 1 = .ok (.iconst 0, 1) := by decide +kernel
theorem dL_hold_2 : decode cL_hold 2 = .ok (.aload_n 0, 1) := by decide +kernel
theorem dL_hold_3 : decode cL_hold 3 = .ok (.iload_n 1, 1) := by decide +kernel
theorem dL_hold_4 : decode cL_hold 4 = .ok (.iload_n 2, 1) := by decide +kernel
theorem dL_hold_5 : decode cL_hold 5 = .ok (.invokevirtual 76, 3) := by decide +kernel
theorem dL_hold_8 : decode cL_hold 8 = .ok (.ifCond .eq 7, 3) := by decide +kernel
theorem dL_hold_11 : decode cL_hold 11 = .ok (.lconst 1, 1) := by decide +kernel
theorem dL_hold_12 : decode cL_hold 12 = .ok (.goto 4, 3) := by decide +kernel
theorem dL_hold_15 : decode cL_hold 15 = .ok (.lconst 0, 1) := by decide +kernel
theorem dL_hold_16 : decode cL_hold 16 = .ok (.lastore, 1) := by decide +kernel
theorem dL_hold_17 : decode cL_hold 17 = .ok (.goto 7, 3) := by decide +kernel
theorem dL_hold_20 : decode cL_hold 20 = .ok (.astore 4, 2) := by decide +kernel
theorem dL_hold_22 : decode cL_hold 22 = .ok (.iconst 1, 1) := by decide +kernel
theorem dL_hold_23 : decode cL_hold 23 = .ok (.ireturn, 1) := by decide +kernel
theorem dL_hold_24 : decode cL_hold 24 = .ok (.iconst 0, 1) := by decide +kernel
theorem dL_hold_25 : decode cL_hold 25 = .ok (.ireturn, 1) := by decide +kernel
theorem dL_bundle_0 : decode cL_bundle 0 = .ok (.aload_n 3, 1) := by decide +kernel
theorem dL_bundle_1 : decode cL_bundle 1 = .ok (.iconst 0, 1) := by decide +kernel
theorem dL_bundle_2 : decode cL_bundle 2 = .ok (.aload_n 0, 1) := by decide +kernel
theorem dL_bundle_3 : decode cL_bundle 3 = .ok (.iload_n 1, 1) := by decide +kernel
theorem dL_bundle_4 : decode cL_bundle 4 = .ok (.iload_n 2, 1) := by decide +kernel
theorem dL_bundle_5 : decode cL_bundle 5 = .ok (.invokevirtual 80, 3) := by decide +kernel
theorem dL_bundle_8 : decode cL_bundle 8 = .ok (.i2l, 1) := by decide +kernel
theorem dL_bundle_9 : decode cL_bundle 9 = .ok (.lastore, 1) := by decide +kernel
theorem dL_bundle_10 : decode cL_bundle 10 = .ok (.goto 7, 3) := by decide +kernel
theorem dL_bundle_13 : decode cL_bundle 13 = .ok (.astore 4, 2) := by decide +kernel
theorem dL_bundle_15 : decode cL_bundle 15 = .ok (.iconst 1, 1) := by decide +kernel
theorem dL_bundle_16 : decode cL_bundle 16 = .ok (.ireturn, 1) := by decide +kernel
theorem dL_bundle_17 : decode cL_bundle 17 = .ok (.iconst 0, 1) := by decide +kernel
theorem dL_bundle_18 : decode cL_bundle 18 = .ok (.ireturn, 1) := by decide +kernel
theorem dL_law_0 : decode cL_law 0 = .ok (.new 8, 3) := by decide +kernel
theorem dL_law_3 : decode cL_law 3 = .ok (.dup, 1) := by decide +kernel
theorem dL_law_4 : decode cL_law 4 = .ok (.invokespecial 83, 3) := by decide +kernel
theorem dL_law_7 : decode cL_law 7 = .ok (.astore_n 1, 1) := by decide +kernel
theorem dL_law_8 : decode cL_law 8 = .ok (.new 84, 3) := by decide +kernel
theorem dL_law_11 : decode cL_law 11 = .ok (.dup, 1) := by decide +kernel
theorem dL_law_12 : decode cL_law 12 = .ok (.invokespecial 86, 3) := by decide +kernel
theorem dL_law_15 : decode cL_law 15 = .ok (.astore_n 2, 1) := by decide +kernel
theorem dL_law_16 : decode cL_law 16 = .ok (.iconst 1, 1) := by decide +kernel
theorem dL_law_17 : decode cL_law 17 = .ok (.newarray .long, 2) := by decide +kernel
theorem dL_law_19 : decode cL_law 19 = .ok (.astore_n 3, 1) := by decide +kernel
theorem dL_law_20 : decode cL_law 20 = .ok (.iconst 0, 1) := by decide +kernel
theorem dL_law_21 : decode cL_law 21 = .ok (.istore 4, 2) := by decide +kernel
theorem dL_law_23 : decode cL_law 23 = .ok (.iload 4, 2) := by decide +kernel
theorem dL_law_25 : decode cL_law 25 = .ok (.aload_n 0, 1) := by decide +kernel
theorem dL_law_26 : decode cL_law 26 = .ok (.arraylength, 1) := by decide +kernel
theorem dL_law_27 : decode cL_law 27 = .ok (.bipush 6, 2) := by decide +kernel
theorem dL_law_29 : decode cL_law 29 = .ok (.isub, 1) := by decide +kernel
theorem dL_law_30 : decode cL_law 30 = .ok (.if_icmp .gt 1408, 3) := by decide +kernel
theorem dL_law_33 : decode cL_law 33 = .ok (.aload_n 0, 1) := by decide +kernel
theorem dL_law_34 : decode cL_law 34 = .ok (.iload 4, 2) := by decide +kernel
theorem dL_law_36 : decode cL_law 36 = .ok (.iaload, 1) := by decide +kernel
theorem dL_law_37 : decode cL_law 37 = .ok (.bipush 31, 2) := by decide +kernel
theorem dL_law_39 : decode cL_law 39 = .ok (.iand, 1) := by decide +kernel
theorem dL_law_40 : decode cL_law 40 = .ok (.tableswitch 1392 0 20 #[100, 156, 236, 292, 336, 380, 436, 492, 572, 640, 653, 716, 772, 828, 884, 988, 1080, 1152, 1220, 1311, 1324], 100) := by decide +kernel
theorem dL_law_140 : decode cL_law 140 = .ok (.aload_n 1, 1) := by decide +kernel
theorem dL_law_141 : decode cL_law 141 = .ok (.aload_n 0, 1) := by decide +kernel
theorem dL_law_142 : decode cL_law 142 = .ok (.iload 4, 2) := by decide +kernel
theorem dL_law_144 : decode cL_law 144 = .ok (.iconst 1, 1) := by decide +kernel
theorem dL_law_145 : decode cL_law 145 = .ok (.iadd, 1) := by decide +kernel
theorem dL_law_146 : decode cL_law 146 = .ok (.iaload, 1) := by decide +kernel
theorem dL_law_147 : decode cL_law 147 = .ok (.aload_n 3, 1) := by decide +kernel
theorem dL_law_148 : decode cL_law 148 = .ok (.invokestatic 87, 3) := by decide +kernel
theorem dL_law_151 : decode cL_law 151 = .ok (.istore 5, 2) := by decide +kernel
theorem dL_law_153 : decode cL_law 153 = .ok (.aload_n 2, 1) := by decide +kernel
theorem dL_law_154 : decode cL_law 154 = .ok (.aload_n 0, 1) := by decide +kernel
theorem dL_law_155 : decode cL_law 155 = .ok (.iload 4, 2) := by decide +kernel
theorem dL_law_157 : decode cL_law 157 = .ok (.iconst 1, 1) := by decide +kernel
theorem dL_law_158 : decode cL_law 158 = .ok (.iadd, 1) := by decide +kernel
theorem dL_law_159 : decode cL_law 159 = .ok (.iaload, 1) := by decide +kernel
theorem dL_law_160 : decode cL_law 160 = .ok (.invokevirtual 92, 3) := by decide +kernel
theorem dL_law_163 : decode cL_law 163 = .ok (.istore 6, 2) := by decide +kernel
theorem dL_law_165 : decode cL_law 165 = .ok (.aload_n 2, 1) := by decide +kernel
theorem dL_law_166 : decode cL_law 166 = .ok (.invokevirtual 93, 3) := by decide +kernel
theorem dL_law_169 : decode cL_law 169 = .ok (.iload 5, 2) := by decide +kernel
theorem dL_law_171 : decode cL_law 171 = .ok (.if_icmp .eq 5, 3) := by decide +kernel
theorem dL_law_174 : decode cL_law 174 = .ok (.iconst 0, 1) := by decide +kernel
theorem dL_law_175 : decode cL_law 175 = .ok (.ireturn, 1) := by decide +kernel
theorem dL_law_176 : decode cL_law 176 = .ok (.iload 5, 2) := by decide +kernel
theorem dL_law_178 : decode cL_law 178 = .ok (.ifCond .ne 15, 3) := by decide +kernel
theorem dL_law_181 : decode cL_law 181 = .ok (.aload_n 3, 1) := by decide +kernel
theorem dL_law_182 : decode cL_law 182 = .ok (.iconst 0, 1) := by decide +kernel
theorem dL_law_183 : decode cL_law 183 = .ok (.laload, 1) := by decide +kernel
theorem dL_law_184 : decode cL_law 184 = .ok (.iload 6, 2) := by decide +kernel
theorem dL_law_186 : decode cL_law 186 = .ok (.i2l, 1) := by decide +kernel
theorem dL_law_187 : decode cL_law 187 = .ok (.lcmp, 1) := by decide +kernel
theorem dL_law_188 : decode cL_law 188 = .ok (.ifCond .eq 5, 3) := by decide +kernel
theorem dL_law_191 : decode cL_law 191 = .ok (.iconst 0, 1) := by decide +kernel
theorem dL_law_192 : decode cL_law 192 = .ok (.ireturn, 1) := by decide +kernel
theorem dL_law_193 : decode cL_law 193 = .ok (.goto 1239, 3) := by decide +kernel
theorem dL_law_196 : decode cL_law 196 = .ok (.aload_n 1, 1) := by decide +kernel
theorem dL_law_197 : decode cL_law 197 = .ok (.aload_n 0, 1) := by decide +kernel
theorem dL_law_198 : decode cL_law 198 = .ok (.iload 4, 2) := by decide +kernel
theorem dL_law_200 : decode cL_law 200 = .ok (.iconst 1, 1) := by decide +kernel
theorem dL_law_201 : decode cL_law 201 = .ok (.iadd, 1) := by decide +kernel
theorem dL_law_202 : decode cL_law 202 = .ok (.iaload, 1) := by decide +kernel
theorem dL_law_203 : decode cL_law 203 = .ok (.aload_n 0, 1) := by decide +kernel
theorem dL_law_204 : decode cL_law 204 = .ok (.iload 4, 2) := by decide +kernel
theorem dL_law_206 : decode cL_law 206 = .ok (.iconst 2, 1) := by decide +kernel
theorem dL_law_207 : decode cL_law 207 = .ok (.iadd, 1) := by decide +kernel
theorem dL_law_208 : decode cL_law 208 = .ok (.iaload, 1) := by decide +kernel
theorem dL_law_209 : decode cL_law 209 = .ok (.aload_n 0, 1) := by decide +kernel
theorem dL_law_210 : decode cL_law 210 = .ok (.iload 4, 2) := by decide +kernel
theorem dL_law_212 : decode cL_law 212 = .ok (.iconst 3, 1) := by decide +kernel
theorem dL_law_213 : decode cL_law 213 = .ok (.iadd, 1) := by decide +kernel
theorem dL_law_214 : decode cL_law 214 = .ok (.iaload, 1) := by decide +kernel
theorem dL_law_215 : decode cL_law 215 = .ok (.aload_n 3, 1) := by decide +kernel
theorem dL_law_216 : decode cL_law 216 = .ok (.invokestatic 96, 3) := by decide +kernel
theorem dL_law_219 : decode cL_law 219 = .ok (.istore 5, 2) := by decide +kernel
theorem dL_law_221 : decode cL_law 221 = .ok (.aload_n 2, 1) := by decide +kernel
theorem dL_law_222 : decode cL_law 222 = .ok (.aload_n 0, 1) := by decide +kernel
theorem dL_law_223 : decode cL_law 223 = .ok (.iload 4, 2) := by decide +kernel
theorem dL_law_225 : decode cL_law 225 = .ok (.iconst 1, 1) := by decide +kernel
theorem dL_law_226 : decode cL_law 226 = .ok (.iadd, 1) := by decide +kernel
theorem dL_law_227 : decode cL_law 227 = .ok (.iaload, 1) := by decide +kernel
theorem dL_law_228 : decode cL_law 228 = .ok (.aload_n 0, 1) := by decide +kernel
theorem dL_law_229 : decode cL_law 229 = .ok (.iload 4, 2) := by decide +kernel
theorem dL_law_231 : decode cL_law 231 = .ok (.iconst 2, 1) := by decide +kernel
theorem dL_law_232 : decode cL_law 232 = .ok (.iadd, 1) := by decide +kernel
theorem dL_law_233 : decode cL_law 233 = .ok (.iaload, 1) := by decide +kernel
theorem dL_law_234 : decode cL_law 234 = .ok (.aload_n 0, 1) := by decide +kernel
theorem dL_law_235 : decode cL_law 235 = .ok (.iload 4, 2) := by decide +kernel
theorem dL_law_237 : decode cL_law 237 = .ok (.iconst 3, 1) := by decide +kernel
theorem dL_law_238 : decode cL_law 238 = .ok (.iadd, 1) := by decide +kernel
theorem dL_law_239 : decode cL_law 239 = .ok (.iaload, 1) := by decide +kernel
theorem dL_law_240 : decode cL_law 240 = .ok (.invokevirtual 99, 3) := by decide +kernel
theorem dL_law_243 : decode cL_law 243 = .ok (.istore 6, 2) := by decide +kernel
theorem dL_law_245 : decode cL_law 245 = .ok (.aload_n 2, 1) := by decide +kernel
theorem dL_law_246 : decode cL_law 246 = .ok (.invokevirtual 93, 3) := by decide +kernel
theorem dL_law_249 : decode cL_law 249 = .ok (.iload 5, 2) := by decide +kernel
theorem dL_law_251 : decode cL_law 251 = .ok (.if_icmp .eq 5, 3) := by decide +kernel
theorem dL_law_254 : decode cL_law 254 = .ok (.iconst 0, 1) := by decide +kernel
theorem dL_law_255 : decode cL_law 255 = .ok (.ireturn, 1) := by decide +kernel
theorem dL_law_256 : decode cL_law 256 = .ok (.iload 5, 2) := by decide +kernel
theorem dL_law_258 : decode cL_law 258 = .ok (.ifCond .ne 15, 3) := by decide +kernel
theorem dL_law_261 : decode cL_law 261 = .ok (.aload_n 3, 1) := by decide +kernel
theorem dL_law_262 : decode cL_law 262 = .ok (.iconst 0, 1) := by decide +kernel
theorem dL_law_263 : decode cL_law 263 = .ok (.laload, 1) := by decide +kernel
theorem dL_law_264 : decode cL_law 264 = .ok (.iload 6, 2) := by decide +kernel
theorem dL_law_266 : decode cL_law 266 = .ok (.i2l, 1) := by decide +kernel
theorem dL_law_267 : decode cL_law 267 = .ok (.lcmp, 1) := by decide +kernel
theorem dL_law_268 : decode cL_law 268 = .ok (.ifCond .eq 5, 3) := by decide +kernel
theorem dL_law_271 : decode cL_law 271 = .ok (.iconst 0, 1) := by decide +kernel
theorem dL_law_272 : decode cL_law 272 = .ok (.ireturn, 1) := by decide +kernel
theorem dL_law_273 : decode cL_law 273 = .ok (.goto 1159, 3) := by decide +kernel
theorem dL_law_276 : decode cL_law 276 = .ok (.aload_n 1, 1) := by decide +kernel
theorem dL_law_277 : decode cL_law 277 = .ok (.aload_n 0, 1) := by decide +kernel
theorem dL_law_278 : decode cL_law 278 = .ok (.iload 4, 2) := by decide +kernel
theorem dL_law_280 : decode cL_law 280 = .ok (.iconst 1, 1) := by decide +kernel
theorem dL_law_281 : decode cL_law 281 = .ok (.iadd, 1) := by decide +kernel
theorem dL_law_282 : decode cL_law 282 = .ok (.iaload, 1) := by decide +kernel
theorem dL_law_283 : decode cL_law 283 = .ok (.aload_n 3, 1) := by decide +kernel
theorem dL_law_284 : decode cL_law 284 = .ok (.invokestatic 100, 3) := by decide +kernel
theorem dL_law_287 : decode cL_law 287 = .ok (.istore 5, 2) := by decide +kernel
theorem dL_law_289 : decode cL_law 289 = .ok (.aload_n 2, 1) := by decide +kernel
theorem dL_law_290 : decode cL_law 290 = .ok (.aload_n 0, 1) := by decide +kernel
theorem dL_law_291 : decode cL_law 291 = .ok (.iload 4, 2) := by decide +kernel
theorem dL_law_293 : decode cL_law 293 = .ok (.iconst 1, 1) := by decide +kernel
theorem dL_law_294 : decode cL_law 294 = .ok (.iadd, 1) := by decide +kernel
theorem dL_law_295 : decode cL_law 295 = .ok (.iaload, 1) := by decide +kernel
theorem dL_law_296 : decode cL_law 296 = .ok (.invokevirtual 102, 3) := by decide +kernel
theorem dL_law_299 : decode cL_law 299 = .ok (.istore 6, 2) := by decide +kernel
theorem dL_law_301 : decode cL_law 301 = .ok (.aload_n 2, 1) := by decide +kernel
theorem dL_law_302 : decode cL_law 302 = .ok (.invokevirtual 93, 3) := by decide +kernel
theorem dL_law_305 : decode cL_law 305 = .ok (.iload 5, 2) := by decide +kernel
theorem dL_law_307 : decode cL_law 307 = .ok (.if_icmp .eq 5, 3) := by decide +kernel
theorem dL_law_310 : decode cL_law 310 = .ok (.iconst 0, 1) := by decide +kernel
theorem dL_law_311 : decode cL_law 311 = .ok (.ireturn, 1) := by decide +kernel
theorem dL_law_312 : decode cL_law 312 = .ok (.iload 5, 2) := by decide +kernel
theorem dL_law_314 : decode cL_law 314 = .ok (.ifCond .ne 15, 3) := by decide +kernel
theorem dL_law_317 : decode cL_law 317 = .ok (.aload_n 3, 1) := by decide +kernel
theorem dL_law_318 : decode cL_law 318 = .ok (.iconst 0, 1) := by decide +kernel
theorem dL_law_319 : decode cL_law 319 = .ok (.laload, 1) := by decide +kernel
theorem dL_law_320 : decode cL_law 320 = .ok (.iload 6, 2) := by decide +kernel
theorem dL_law_322 : decode cL_law 322 = .ok (.i2l, 1) := by decide +kernel
theorem dL_law_323 : decode cL_law 323 = .ok (.lcmp, 1) := by decide +kernel
theorem dL_law_324 : decode cL_law 324 = .ok (.ifCond .eq 5, 3) := by decide +kernel
theorem dL_law_327 : decode cL_law 327 = .ok (.iconst 0, 1) := by decide +kernel
theorem dL_law_328 : decode cL_law 328 = .ok (.ireturn, 1) := by decide +kernel
theorem dL_law_329 : decode cL_law 329 = .ok (.goto 1103, 3) := by decide +kernel
theorem dL_law_332 : decode cL_law 332 = .ok (.aload_n 1, 1) := by decide +kernel
theorem dL_law_333 : decode cL_law 333 = .ok (.aload_n 3, 1) := by decide +kernel
theorem dL_law_334 : decode cL_law 334 = .ok (.invokestatic 103, 3) := by decide +kernel
theorem dL_law_337 : decode cL_law 337 = .ok (.istore 5, 2) := by decide +kernel
theorem dL_law_339 : decode cL_law 339 = .ok (.aload_n 2, 1) := by decide +kernel
theorem dL_law_340 : decode cL_law 340 = .ok (.invokevirtual 106, 3) := by decide +kernel
theorem dL_law_343 : decode cL_law 343 = .ok (.istore 6, 2) := by decide +kernel
theorem dL_law_345 : decode cL_law 345 = .ok (.aload_n 2, 1) := by decide +kernel
theorem dL_law_346 : decode cL_law 346 = .ok (.invokevirtual 93, 3) := by decide +kernel
theorem dL_law_349 : decode cL_law 349 = .ok (.iload 5, 2) := by decide +kernel
theorem dL_law_351 : decode cL_law 351 = .ok (.if_icmp .eq 5, 3) := by decide +kernel
theorem dL_law_354 : decode cL_law 354 = .ok (.iconst 0, 1) := by decide +kernel
theorem dL_law_355 : decode cL_law 355 = .ok (.ireturn, 1) := by decide +kernel
theorem dL_law_356 : decode cL_law 356 = .ok (.iload 5, 2) := by decide +kernel
theorem dL_law_358 : decode cL_law 358 = .ok (.ifCond .ne 15, 3) := by decide +kernel
theorem dL_law_361 : decode cL_law 361 = .ok (.aload_n 3, 1) := by decide +kernel
theorem dL_law_362 : decode cL_law 362 = .ok (.iconst 0, 1) := by decide +kernel
theorem dL_law_363 : decode cL_law 363 = .ok (.laload, 1) := by decide +kernel
theorem dL_law_364 : decode cL_law 364 = .ok (.iload 6, 2) := by decide +kernel
theorem dL_law_366 : decode cL_law 366 = .ok (.i2l, 1) := by decide +kernel
theorem dL_law_367 : decode cL_law 367 = .ok (.lcmp, 1) := by decide +kernel
theorem dL_law_368 : decode cL_law 368 = .ok (.ifCond .eq 5, 3) := by decide +kernel
theorem dL_law_371 : decode cL_law 371 = .ok (.iconst 0, 1) := by decide +kernel
theorem dL_law_372 : decode cL_law 372 = .ok (.ireturn, 1) := by decide +kernel
theorem dL_law_373 : decode cL_law 373 = .ok (.goto 1059, 3) := by decide +kernel
theorem dL_law_376 : decode cL_law 376 = .ok (.aload_n 1, 1) := by decide +kernel
theorem dL_law_377 : decode cL_law 377 = .ok (.aload_n 3, 1) := by decide +kernel
theorem dL_law_378 : decode cL_law 378 = .ok (.invokestatic 107, 3) := by decide +kernel
theorem dL_law_381 : decode cL_law 381 = .ok (.istore 5, 2) := by decide +kernel
theorem dL_law_383 : decode cL_law 383 = .ok (.aload_n 2, 1) := by decide +kernel
theorem dL_law_384 : decode cL_law 384 = .ok (.invokevirtual 109, 3) := by decide +kernel
theorem dL_law_387 : decode cL_law 387 = .ok (.istore 6, 2) := by decide +kernel
theorem dL_law_389 : decode cL_law 389 = .ok (.aload_n 2, 1) := by decide +kernel
theorem dL_law_390 : decode cL_law 390 = .ok (.invokevirtual 93, 3) := by decide +kernel
theorem dL_law_393 : decode cL_law 393 = .ok (.iload 5, 2) := by decide +kernel
theorem dL_law_395 : decode cL_law 395 = .ok (.if_icmp .eq 5, 3) := by decide +kernel
theorem dL_law_398 : decode cL_law 398 = .ok (.iconst 0, 1) := by decide +kernel
theorem dL_law_399 : decode cL_law 399 = .ok (.ireturn, 1) := by decide +kernel
theorem dL_law_400 : decode cL_law 400 = .ok (.iload 5, 2) := by decide +kernel
theorem dL_law_402 : decode cL_law 402 = .ok (.ifCond .ne 15, 3) := by decide +kernel
theorem dL_law_405 : decode cL_law 405 = .ok (.aload_n 3, 1) := by decide +kernel
theorem dL_law_406 : decode cL_law 406 = .ok (.iconst 0, 1) := by decide +kernel
theorem dL_law_407 : decode cL_law 407 = .ok (.laload, 1) := by decide +kernel
theorem dL_law_408 : decode cL_law 408 = .ok (.iload 6, 2) := by decide +kernel
theorem dL_law_410 : decode cL_law 410 = .ok (.i2l, 1) := by decide +kernel
theorem dL_law_411 : decode cL_law 411 = .ok (.lcmp, 1) := by decide +kernel
theorem dL_law_412 : decode cL_law 412 = .ok (.ifCond .eq 5, 3) := by decide +kernel
theorem dL_law_415 : decode cL_law 415 = .ok (.iconst 0, 1) := by decide +kernel
theorem dL_law_416 : decode cL_law 416 = .ok (.ireturn, 1) := by decide +kernel
theorem dL_law_417 : decode cL_law 417 = .ok (.goto 1015, 3) := by decide +kernel
theorem dL_law_420 : decode cL_law 420 = .ok (.aload_n 1, 1) := by decide +kernel
theorem dL_law_421 : decode cL_law 421 = .ok (.aload_n 0, 1) := by decide +kernel
theorem dL_law_422 : decode cL_law 422 = .ok (.iload 4, 2) := by decide +kernel
theorem dL_law_424 : decode cL_law 424 = .ok (.iconst 1, 1) := by decide +kernel
theorem dL_law_425 : decode cL_law 425 = .ok (.iadd, 1) := by decide +kernel
theorem dL_law_426 : decode cL_law 426 = .ok (.iaload, 1) := by decide +kernel
theorem dL_law_427 : decode cL_law 427 = .ok (.aload_n 3, 1) := by decide +kernel
theorem dL_law_428 : decode cL_law 428 = .ok (.invokestatic 110, 3) := by decide +kernel
theorem dL_law_431 : decode cL_law 431 = .ok (.istore 5, 2) := by decide +kernel
theorem dL_law_433 : decode cL_law 433 = .ok (.aload_n 2, 1) := by decide +kernel
theorem dL_law_434 : decode cL_law 434 = .ok (.aload_n 0, 1) := by decide +kernel
theorem dL_law_435 : decode cL_law 435 = .ok (.iload 4, 2) := by decide +kernel
theorem dL_law_437 : decode cL_law 437 = .ok (.iconst 1, 1) := by decide +kernel
theorem dL_law_438 : decode cL_law 438 = .ok (.iadd, 1) := by decide +kernel
theorem dL_law_439 : decode cL_law 439 = .ok (.iaload, 1) := by decide +kernel
theorem dL_law_440 : decode cL_law 440 = .ok (.invokevirtual 112, 3) := by decide +kernel
theorem dL_law_443 : decode cL_law 443 = .ok (.istore 6, 2) := by decide +kernel
theorem dL_law_445 : decode cL_law 445 = .ok (.aload_n 2, 1) := by decide +kernel
theorem dL_law_446 : decode cL_law 446 = .ok (.invokevirtual 93, 3) := by decide +kernel
theorem dL_law_449 : decode cL_law 449 = .ok (.iload 5, 2) := by decide +kernel
theorem dL_law_451 : decode cL_law 451 = .ok (.if_icmp .eq 5, 3) := by decide +kernel
theorem dL_law_454 : decode cL_law 454 = .ok (.iconst 0, 1) := by decide +kernel
theorem dL_law_455 : decode cL_law 455 = .ok (.ireturn, 1) := by decide +kernel
theorem dL_law_456 : decode cL_law 456 = .ok (.iload 5, 2) := by decide +kernel
theorem dL_law_458 : decode cL_law 458 = .ok (.ifCond .ne 15, 3) := by decide +kernel
theorem dL_law_461 : decode cL_law 461 = .ok (.aload_n 3, 1) := by decide +kernel
theorem dL_law_462 : decode cL_law 462 = .ok (.iconst 0, 1) := by decide +kernel
theorem dL_law_463 : decode cL_law 463 = .ok (.laload, 1) := by decide +kernel
theorem dL_law_464 : decode cL_law 464 = .ok (.iload 6, 2) := by decide +kernel
theorem dL_law_466 : decode cL_law 466 = .ok (.i2l, 1) := by decide +kernel
theorem dL_law_467 : decode cL_law 467 = .ok (.lcmp, 1) := by decide +kernel
theorem dL_law_468 : decode cL_law 468 = .ok (.ifCond .eq 5, 3) := by decide +kernel
theorem dL_law_471 : decode cL_law 471 = .ok (.iconst 0, 1) := by decide +kernel
theorem dL_law_472 : decode cL_law 472 = .ok (.ireturn, 1) := by decide +kernel
theorem dL_law_473 : decode cL_law 473 = .ok (.goto 959, 3) := by decide +kernel
theorem dL_law_476 : decode cL_law 476 = .ok (.aload_n 1, 1) := by decide +kernel
theorem dL_law_477 : decode cL_law 477 = .ok (.aload_n 0, 1) := by decide +kernel
theorem dL_law_478 : decode cL_law 478 = .ok (.iload 4, 2) := by decide +kernel
theorem dL_law_480 : decode cL_law 480 = .ok (.iconst 1, 1) := by decide +kernel
theorem dL_law_481 : decode cL_law 481 = .ok (.iadd, 1) := by decide +kernel
theorem dL_law_482 : decode cL_law 482 = .ok (.iaload, 1) := by decide +kernel
theorem dL_law_483 : decode cL_law 483 = .ok (.aload_n 3, 1) := by decide +kernel
theorem dL_law_484 : decode cL_law 484 = .ok (.invokestatic 113, 3) := by decide +kernel
theorem dL_law_487 : decode cL_law 487 = .ok (.istore 5, 2) := by decide +kernel
theorem dL_law_489 : decode cL_law 489 = .ok (.aload_n 2, 1) := by decide +kernel
theorem dL_law_490 : decode cL_law 490 = .ok (.aload_n 0, 1) := by decide +kernel
theorem dL_law_491 : decode cL_law 491 = .ok (.iload 4, 2) := by decide +kernel
theorem dL_law_493 : decode cL_law 493 = .ok (.iconst 1, 1) := by decide +kernel
theorem dL_law_494 : decode cL_law 494 = .ok (.iadd, 1) := by decide +kernel
theorem dL_law_495 : decode cL_law 495 = .ok (.iaload, 1) := by decide +kernel
theorem dL_law_496 : decode cL_law 496 = .ok (.invokevirtual 115, 3) := by decide +kernel
theorem dL_law_499 : decode cL_law 499 = .ok (.istore 6, 2) := by decide +kernel
theorem dL_law_501 : decode cL_law 501 = .ok (.aload_n 2, 1) := by decide +kernel
theorem dL_law_502 : decode cL_law 502 = .ok (.invokevirtual 93, 3) := by decide +kernel
theorem dL_law_505 : decode cL_law 505 = .ok (.iload 5, 2) := by decide +kernel
theorem dL_law_507 : decode cL_law 507 = .ok (.if_icmp .eq 5, 3) := by decide +kernel
theorem dL_law_510 : decode cL_law 510 = .ok (.iconst 0, 1) := by decide +kernel
theorem dL_law_511 : decode cL_law 511 = .ok (.ireturn, 1) := by decide +kernel
theorem dL_law_512 : decode cL_law 512 = .ok (.iload 5, 2) := by decide +kernel
theorem dL_law_514 : decode cL_law 514 = .ok (.ifCond .ne 15, 3) := by decide +kernel
theorem dL_law_517 : decode cL_law 517 = .ok (.aload_n 3, 1) := by decide +kernel
theorem dL_law_518 : decode cL_law 518 = .ok (.iconst 0, 1) := by decide +kernel
theorem dL_law_519 : decode cL_law 519 = .ok (.laload, 1) := by decide +kernel
theorem dL_law_520 : decode cL_law 520 = .ok (.iload 6, 2) := by decide +kernel
theorem dL_law_522 : decode cL_law 522 = .ok (.i2l, 1) := by decide +kernel
theorem dL_law_523 : decode cL_law 523 = .ok (.lcmp, 1) := by decide +kernel
theorem dL_law_524 : decode cL_law 524 = .ok (.ifCond .eq 5, 3) := by decide +kernel
theorem dL_law_527 : decode cL_law 527 = .ok (.iconst 0, 1) := by decide +kernel
theorem dL_law_528 : decode cL_law 528 = .ok (.ireturn, 1) := by decide +kernel
theorem dL_law_529 : decode cL_law 529 = .ok (.goto 903, 3) := by decide +kernel
theorem dL_law_532 : decode cL_law 532 = .ok (.aload_n 1, 1) := by decide +kernel
theorem dL_law_533 : decode cL_law 533 = .ok (.aload_n 0, 1) := by decide +kernel
theorem dL_law_534 : decode cL_law 534 = .ok (.iload 4, 2) := by decide +kernel
theorem dL_law_536 : decode cL_law 536 = .ok (.iconst 1, 1) := by decide +kernel
theorem dL_law_537 : decode cL_law 537 = .ok (.iadd, 1) := by decide +kernel
theorem dL_law_538 : decode cL_law 538 = .ok (.iaload, 1) := by decide +kernel
theorem dL_law_539 : decode cL_law 539 = .ok (.aload_n 0, 1) := by decide +kernel
theorem dL_law_540 : decode cL_law 540 = .ok (.iload 4, 2) := by decide +kernel
theorem dL_law_542 : decode cL_law 542 = .ok (.iconst 2, 1) := by decide +kernel
theorem dL_law_543 : decode cL_law 543 = .ok (.iadd, 1) := by decide +kernel
theorem dL_law_544 : decode cL_law 544 = .ok (.iaload, 1) := by decide +kernel
theorem dL_law_545 : decode cL_law 545 = .ok (.aload_n 0, 1) := by decide +kernel
theorem dL_law_546 : decode cL_law 546 = .ok (.iload 4, 2) := by decide +kernel
theorem dL_law_548 : decode cL_law 548 = .ok (.iconst 3, 1) := by decide +kernel
theorem dL_law_549 : decode cL_law 549 = .ok (.iadd, 1) := by decide +kernel
theorem dL_law_550 : decode cL_law 550 = .ok (.iaload, 1) := by decide +kernel
theorem dL_law_551 : decode cL_law 551 = .ok (.aload_n 3, 1) := by decide +kernel
theorem dL_law_552 : decode cL_law 552 = .ok (.invokestatic 116, 3) := by decide +kernel
theorem dL_law_555 : decode cL_law 555 = .ok (.istore 5, 2) := by decide +kernel
theorem dL_law_557 : decode cL_law 557 = .ok (.aload_n 2, 1) := by decide +kernel
theorem dL_law_558 : decode cL_law 558 = .ok (.aload_n 0, 1) := by decide +kernel
theorem dL_law_559 : decode cL_law 559 = .ok (.iload 4, 2) := by decide +kernel
theorem dL_law_561 : decode cL_law 561 = .ok (.iconst 1, 1) := by decide +kernel
theorem dL_law_562 : decode cL_law 562 = .ok (.iadd, 1) := by decide +kernel
theorem dL_law_563 : decode cL_law 563 = .ok (.iaload, 1) := by decide +kernel
theorem dL_law_564 : decode cL_law 564 = .ok (.aload_n 0, 1) := by decide +kernel
theorem dL_law_565 : decode cL_law 565 = .ok (.iload 4, 2) := by decide +kernel
theorem dL_law_567 : decode cL_law 567 = .ok (.iconst 2, 1) := by decide +kernel
theorem dL_law_568 : decode cL_law 568 = .ok (.iadd, 1) := by decide +kernel
theorem dL_law_569 : decode cL_law 569 = .ok (.iaload, 1) := by decide +kernel
theorem dL_law_570 : decode cL_law 570 = .ok (.aload_n 0, 1) := by decide +kernel
theorem dL_law_571 : decode cL_law 571 = .ok (.iload 4, 2) := by decide +kernel
theorem dL_law_573 : decode cL_law 573 = .ok (.iconst 3, 1) := by decide +kernel
theorem dL_law_574 : decode cL_law 574 = .ok (.iadd, 1) := by decide +kernel
theorem dL_law_575 : decode cL_law 575 = .ok (.iaload, 1) := by decide +kernel
theorem dL_law_576 : decode cL_law 576 = .ok (.invokevirtual 118, 3) := by decide +kernel
theorem dL_law_579 : decode cL_law 579 = .ok (.istore 6, 2) := by decide +kernel
theorem dL_law_581 : decode cL_law 581 = .ok (.aload_n 2, 1) := by decide +kernel
theorem dL_law_582 : decode cL_law 582 = .ok (.invokevirtual 93, 3) := by decide +kernel
theorem dL_law_585 : decode cL_law 585 = .ok (.iload 5, 2) := by decide +kernel
theorem dL_law_587 : decode cL_law 587 = .ok (.if_icmp .eq 5, 3) := by decide +kernel
theorem dL_law_590 : decode cL_law 590 = .ok (.iconst 0, 1) := by decide +kernel
theorem dL_law_591 : decode cL_law 591 = .ok (.ireturn, 1) := by decide +kernel
theorem dL_law_592 : decode cL_law 592 = .ok (.iload 5, 2) := by decide +kernel
theorem dL_law_594 : decode cL_law 594 = .ok (.ifCond .ne 15, 3) := by decide +kernel
theorem dL_law_597 : decode cL_law 597 = .ok (.aload_n 3, 1) := by decide +kernel
theorem dL_law_598 : decode cL_law 598 = .ok (.iconst 0, 1) := by decide +kernel
theorem dL_law_599 : decode cL_law 599 = .ok (.laload, 1) := by decide +kernel
theorem dL_law_600 : decode cL_law 600 = .ok (.iload 6, 2) := by decide +kernel
theorem dL_law_602 : decode cL_law 602 = .ok (.i2l, 1) := by decide +kernel
theorem dL_law_603 : decode cL_law 603 = .ok (.lcmp, 1) := by decide +kernel
theorem dL_law_604 : decode cL_law 604 = .ok (.ifCond .eq 5, 3) := by decide +kernel
theorem dL_law_607 : decode cL_law 607 = .ok (.iconst 0, 1) := by decide +kernel
theorem dL_law_608 : decode cL_law 608 = .ok (.ireturn, 1) := by decide +kernel
theorem dL_law_609 : decode cL_law 609 = .ok (.goto 823, 3) := by decide +kernel
theorem dL_law_612 : decode cL_law 612 = .ok (.aload_n 1, 1) := by decide +kernel
theorem dL_law_613 : decode cL_law 613 = .ok (.aload_n 0, 1) := by decide +kernel
theorem dL_law_614 : decode cL_law 614 = .ok (.iload 4, 2) := by decide +kernel
theorem dL_law_616 : decode cL_law 616 = .ok (.iconst 1, 1) := by decide +kernel
theorem dL_law_617 : decode cL_law 617 = .ok (.iadd, 1) := by decide +kernel
theorem dL_law_618 : decode cL_law 618 = .ok (.iaload, 1) := by decide +kernel
theorem dL_law_619 : decode cL_law 619 = .ok (.aload_n 0, 1) := by decide +kernel
theorem dL_law_620 : decode cL_law 620 = .ok (.iload 4, 2) := by decide +kernel
theorem dL_law_622 : decode cL_law 622 = .ok (.iconst 2, 1) := by decide +kernel
theorem dL_law_623 : decode cL_law 623 = .ok (.iadd, 1) := by decide +kernel
theorem dL_law_624 : decode cL_law 624 = .ok (.iaload, 1) := by decide +kernel
theorem dL_law_625 : decode cL_law 625 = .ok (.aload_n 3, 1) := by decide +kernel
theorem dL_law_626 : decode cL_law 626 = .ok (.invokestatic 119, 3) := by decide +kernel
theorem dL_law_629 : decode cL_law 629 = .ok (.istore 5, 2) := by decide +kernel
theorem dL_law_631 : decode cL_law 631 = .ok (.aload_n 2, 1) := by decide +kernel
theorem dL_law_632 : decode cL_law 632 = .ok (.aload_n 0, 1) := by decide +kernel
theorem dL_law_633 : decode cL_law 633 = .ok (.iload 4, 2) := by decide +kernel
theorem dL_law_635 : decode cL_law 635 = .ok (.iconst 1, 1) := by decide +kernel
theorem dL_law_636 : decode cL_law 636 = .ok (.iadd, 1) := by decide +kernel
theorem dL_law_637 : decode cL_law 637 = .ok (.iaload, 1) := by decide +kernel
theorem dL_law_638 : decode cL_law 638 = .ok (.aload_n 0, 1) := by decide +kernel
theorem dL_law_639 : decode cL_law 639 = .ok (.iload 4, 2) := by decide +kernel
theorem dL_law_641 : decode cL_law 641 = .ok (.iconst 2, 1) := by decide +kernel
theorem dL_law_642 : decode cL_law 642 = .ok (.iadd, 1) := by decide +kernel
theorem dL_law_643 : decode cL_law 643 = .ok (.iaload, 1) := by decide +kernel
theorem dL_law_644 : decode cL_law 644 = .ok (.invokevirtual 122, 3) := by decide +kernel
theorem dL_law_647 : decode cL_law 647 = .ok (.istore 6, 2) := by decide +kernel
theorem dL_law_649 : decode cL_law 649 = .ok (.aload_n 2, 1) := by decide +kernel
theorem dL_law_650 : decode cL_law 650 = .ok (.invokevirtual 93, 3) := by decide +kernel
theorem dL_law_653 : decode cL_law 653 = .ok (.iload 5, 2) := by decide +kernel
theorem dL_law_655 : decode cL_law 655 = .ok (.if_icmp .eq 5, 3) := by decide +kernel
theorem dL_law_658 : decode cL_law 658 = .ok (.iconst 0, 1) := by decide +kernel
theorem dL_law_659 : decode cL_law 659 = .ok (.ireturn, 1) := by decide +kernel
theorem dL_law_660 : decode cL_law 660 = .ok (.iload 5, 2) := by decide +kernel
theorem dL_law_662 : decode cL_law 662 = .ok (.ifCond .ne 15, 3) := by decide +kernel
theorem dL_law_665 : decode cL_law 665 = .ok (.aload_n 3, 1) := by decide +kernel
theorem dL_law_666 : decode cL_law 666 = .ok (.iconst 0, 1) := by decide +kernel
theorem dL_law_667 : decode cL_law 667 = .ok (.laload, 1) := by decide +kernel
theorem dL_law_668 : decode cL_law 668 = .ok (.iload 6, 2) := by decide +kernel
theorem dL_law_670 : decode cL_law 670 = .ok (.i2l, 1) := by decide +kernel
theorem dL_law_671 : decode cL_law 671 = .ok (.lcmp, 1) := by decide +kernel
theorem dL_law_672 : decode cL_law 672 = .ok (.ifCond .eq 5, 3) := by decide +kernel
theorem dL_law_675 : decode cL_law 675 = .ok (.iconst 0, 1) := by decide +kernel
theorem dL_law_676 : decode cL_law 676 = .ok (.ireturn, 1) := by decide +kernel
theorem dL_law_677 : decode cL_law 677 = .ok (.goto 755, 3) := by decide +kernel
theorem dL_law_680 : decode cL_law 680 = .ok (.aload_n 1, 1) := by decide +kernel
theorem dL_law_681 : decode cL_law 681 = .ok (.invokevirtual 123, 3) := by decide +kernel
theorem dL_law_684 : decode cL_law 684 = .ok (.aload_n 2, 1) := by decide +kernel
theorem dL_law_685 : decode cL_law 685 = .ok (.invokevirtual 126, 3) := by decide +kernel
theorem dL_law_688 : decode cL_law 688 = .ok (.if_icmp .eq 744, 3) := by decide +kernel
theorem dL_law_691 : decode cL_law 691 = .ok (.iconst 0, 1) := by decide +kernel
theorem dL_law_692 : decode cL_law 692 = .ok (.ireturn, 1) := by decide +kernel
theorem dL_law_693 : decode cL_law 693 = .ok (.aload_n 1, 1) := by decide +kernel
theorem dL_law_694 : decode cL_law 694 = .ok (.aload_n 0, 1) := by decide +kernel
theorem dL_law_695 : decode cL_law 695 = .ok (.iload 4, 2) := by decide +kernel
theorem dL_law_697 : decode cL_law 697 = .ok (.iconst 1, 1) := by decide +kernel
theorem dL_law_698 : decode cL_law 698 = .ok (.iadd, 1) := by decide +kernel
theorem dL_law_699 : decode cL_law 699 = .ok (.iaload, 1) := by decide +kernel
theorem dL_law_700 : decode cL_law 700 = .ok (.aload_n 3, 1) := by decide +kernel
theorem dL_law_701 : decode cL_law 701 = .ok (.invokestatic 127, 3) := by decide +kernel
theorem dL_law_704 : decode cL_law 704 = .ok (.istore 5, 2) := by decide +kernel
theorem dL_law_706 : decode cL_law 706 = .ok (.aload_n 2, 1) := by decide +kernel
theorem dL_law_707 : decode cL_law 707 = .ok (.aload_n 0, 1) := by decide +kernel
theorem dL_law_708 : decode cL_law 708 = .ok (.iload 4, 2) := by decide +kernel
theorem dL_law_710 : decode cL_law 710 = .ok (.iconst 1, 1) := by decide +kernel
theorem dL_law_711 : decode cL_law 711 = .ok (.iadd, 1) := by decide +kernel
theorem dL_law_712 : decode cL_law 712 = .ok (.iaload, 1) := by decide +kernel
theorem dL_law_713 : decode cL_law 713 = .ok (.invokevirtual 129, 3) := by decide +kernel
theorem dL_law_716 : decode cL_law 716 = .ok (.istore 6, 2) := by decide +kernel
theorem dL_law_718 : decode cL_law 718 = .ok (.aload_n 2, 1) := by decide +kernel
theorem dL_law_719 : decode cL_law 719 = .ok (.invokevirtual 93, 3) := by decide +kernel
theorem dL_law_722 : decode cL_law 722 = .ok (.iload 5, 2) := by decide +kernel
theorem dL_law_724 : decode cL_law 724 = .ok (.if_icmp .eq 5, 3) := by decide +kernel
theorem dL_law_727 : decode cL_law 727 = .ok (.iconst 0, 1) := by decide +kernel
theorem dL_law_728 : decode cL_law 728 = .ok (.ireturn, 1) := by decide +kernel
theorem dL_law_729 : decode cL_law 729 = .ok (.iload 5, 2) := by decide +kernel
theorem dL_law_731 : decode cL_law 731 = .ok (.ifCond .ne 22, 3) := by decide +kernel
theorem dL_law_734 : decode cL_law 734 = .ok (.aload_n 3, 1) := by decide +kernel
theorem dL_law_735 : decode cL_law 735 = .ok (.iconst 0, 1) := by decide +kernel
theorem dL_law_736 : decode cL_law 736 = .ok (.laload, 1) := by decide +kernel
theorem dL_law_737 : decode cL_law 737 = .ok (.iload 6, 2) := by decide +kernel
theorem dL_law_739 : decode cL_law 739 = .ok (.ifCond .eq 7, 3) := by decide +kernel
theorem dL_law_742 : decode cL_law 742 = .ok (.lconst 1, 1) := by decide +kernel
theorem dL_law_743 : decode cL_law 743 = .ok (.goto 4, 3) := by decide +kernel
theorem dL_law_746 : decode cL_law 746 = .ok (.lconst 0, 1) := by decide +kernel
theorem dL_law_747 : decode cL_law 747 = .ok (.lcmp, 1) := by decide +kernel
theorem dL_law_748 : decode cL_law 748 = .ok (.ifCond .eq 5, 3) := by decide +kernel
theorem dL_law_751 : decode cL_law 751 = .ok (.iconst 0, 1) := by decide +kernel
theorem dL_law_752 : decode cL_law 752 = .ok (.ireturn, 1) := by decide +kernel
theorem dL_law_753 : decode cL_law 753 = .ok (.goto 679, 3) := by decide +kernel
theorem dL_law_756 : decode cL_law 756 = .ok (.aload_n 1, 1) := by decide +kernel
theorem dL_law_757 : decode cL_law 757 = .ok (.aload_n 0, 1) := by decide +kernel
theorem dL_law_758 : decode cL_law 758 = .ok (.iload 4, 2) := by decide +kernel
theorem dL_law_760 : decode cL_law 760 = .ok (.iconst 1, 1) := by decide +kernel
theorem dL_law_761 : decode cL_law 761 = .ok (.iadd, 1) := by decide +kernel
theorem dL_law_762 : decode cL_law 762 = .ok (.iaload, 1) := by decide +kernel
theorem dL_law_763 : decode cL_law 763 = .ok (.aload_n 3, 1) := by decide +kernel
theorem dL_law_764 : decode cL_law 764 = .ok (.invokestatic 130, 3) := by decide +kernel
theorem dL_law_767 : decode cL_law 767 = .ok (.istore 5, 2) := by decide +kernel
theorem dL_law_769 : decode cL_law 769 = .ok (.aload_n 2, 1) := by decide +kernel
theorem dL_law_770 : decode cL_law 770 = .ok (.aload_n 0, 1) := by decide +kernel
theorem dL_law_771 : decode cL_law 771 = .ok (.iload 4, 2) := by decide +kernel
theorem dL_law_773 : decode cL_law 773 = .ok (.iconst 1, 1) := by decide +kernel
theorem dL_law_774 : decode cL_law 774 = .ok (.iadd, 1) := by decide +kernel
theorem dL_law_775 : decode cL_law 775 = .ok (.iaload, 1) := by decide +kernel
theorem dL_law_776 : decode cL_law 776 = .ok (.invokevirtual 132, 3) := by decide +kernel
theorem dL_law_779 : decode cL_law 779 = .ok (.istore 6, 2) := by decide +kernel
theorem dL_law_781 : decode cL_law 781 = .ok (.aload_n 2, 1) := by decide +kernel
theorem dL_law_782 : decode cL_law 782 = .ok (.invokevirtual 93, 3) := by decide +kernel
theorem dL_law_785 : decode cL_law 785 = .ok (.iload 5, 2) := by decide +kernel
theorem dL_law_787 : decode cL_law 787 = .ok (.if_icmp .eq 5, 3) := by decide +kernel
theorem dL_law_790 : decode cL_law 790 = .ok (.iconst 0, 1) := by decide +kernel
theorem dL_law_791 : decode cL_law 791 = .ok (.ireturn, 1) := by decide +kernel
theorem dL_law_792 : decode cL_law 792 = .ok (.iload 5, 2) := by decide +kernel
theorem dL_law_794 : decode cL_law 794 = .ok (.ifCond .ne 15, 3) := by decide +kernel
theorem dL_law_797 : decode cL_law 797 = .ok (.aload_n 3, 1) := by decide +kernel
theorem dL_law_798 : decode cL_law 798 = .ok (.iconst 0, 1) := by decide +kernel
theorem dL_law_799 : decode cL_law 799 = .ok (.laload, 1) := by decide +kernel
theorem dL_law_800 : decode cL_law 800 = .ok (.iload 6, 2) := by decide +kernel
theorem dL_law_802 : decode cL_law 802 = .ok (.i2l, 1) := by decide +kernel
theorem dL_law_803 : decode cL_law 803 = .ok (.lcmp, 1) := by decide +kernel
theorem dL_law_804 : decode cL_law 804 = .ok (.ifCond .eq 5, 3) := by decide +kernel
theorem dL_law_807 : decode cL_law 807 = .ok (.iconst 0, 1) := by decide +kernel
theorem dL_law_808 : decode cL_law 808 = .ok (.ireturn, 1) := by decide +kernel
theorem dL_law_809 : decode cL_law 809 = .ok (.goto 623, 3) := by decide +kernel
theorem dL_law_812 : decode cL_law 812 = .ok (.aload_n 1, 1) := by decide +kernel
theorem dL_law_813 : decode cL_law 813 = .ok (.aload_n 0, 1) := by decide +kernel
theorem dL_law_814 : decode cL_law 814 = .ok (.iload 4, 2) := by decide +kernel
theorem dL_law_816 : decode cL_law 816 = .ok (.iconst 1, 1) := by decide +kernel
theorem dL_law_817 : decode cL_law 817 = .ok (.iadd, 1) := by decide +kernel
theorem dL_law_818 : decode cL_law 818 = .ok (.iaload, 1) := by decide +kernel
theorem dL_law_819 : decode cL_law 819 = .ok (.aload_n 3, 1) := by decide +kernel
theorem dL_law_820 : decode cL_law 820 = .ok (.invokestatic 133, 3) := by decide +kernel
theorem dL_law_823 : decode cL_law 823 = .ok (.istore 5, 2) := by decide +kernel
theorem dL_law_825 : decode cL_law 825 = .ok (.aload_n 2, 1) := by decide +kernel
theorem dL_law_826 : decode cL_law 826 = .ok (.aload_n 0, 1) := by decide +kernel
theorem dL_law_827 : decode cL_law 827 = .ok (.iload 4, 2) := by decide +kernel
theorem dL_law_829 : decode cL_law 829 = .ok (.iconst 1, 1) := by decide +kernel
theorem dL_law_830 : decode cL_law 830 = .ok (.iadd, 1) := by decide +kernel
theorem dL_law_831 : decode cL_law 831 = .ok (.iaload, 1) := by decide +kernel
theorem dL_law_832 : decode cL_law 832 = .ok (.invokevirtual 135, 3) := by decide +kernel
theorem dL_law_835 : decode cL_law 835 = .ok (.istore 6, 2) := by decide +kernel
theorem dL_law_837 : decode cL_law 837 = .ok (.aload_n 2, 1) := by decide +kernel
theorem dL_law_838 : decode cL_law 838 = .ok (.invokevirtual 93, 3) := by decide +kernel
theorem dL_law_841 : decode cL_law 841 = .ok (.iload 5, 2) := by decide +kernel
theorem dL_law_843 : decode cL_law 843 = .ok (.if_icmp .eq 5, 3) := by decide +kernel
theorem dL_law_846 : decode cL_law 846 = .ok (.iconst 0, 1) := by decide +kernel
theorem dL_law_847 : decode cL_law 847 = .ok (.ireturn, 1) := by decide +kernel
theorem dL_law_848 : decode cL_law 848 = .ok (.iload 5, 2) := by decide +kernel
theorem dL_law_850 : decode cL_law 850 = .ok (.ifCond .ne 15, 3) := by decide +kernel
theorem dL_law_853 : decode cL_law 853 = .ok (.aload_n 3, 1) := by decide +kernel
theorem dL_law_854 : decode cL_law 854 = .ok (.iconst 0, 1) := by decide +kernel
theorem dL_law_855 : decode cL_law 855 = .ok (.laload, 1) := by decide +kernel
theorem dL_law_856 : decode cL_law 856 = .ok (.iload 6, 2) := by decide +kernel
theorem dL_law_858 : decode cL_law 858 = .ok (.i2l, 1) := by decide +kernel
theorem dL_law_859 : decode cL_law 859 = .ok (.lcmp, 1) := by decide +kernel
theorem dL_law_860 : decode cL_law 860 = .ok (.ifCond .eq 5, 3) := by decide +kernel
theorem dL_law_863 : decode cL_law 863 = .ok (.iconst 0, 1) := by decide +kernel
theorem dL_law_864 : decode cL_law 864 = .ok (.ireturn, 1) := by decide +kernel
theorem dL_law_865 : decode cL_law 865 = .ok (.goto 567, 3) := by decide +kernel
theorem dL_law_868 : decode cL_law 868 = .ok (.aload_n 1, 1) := by decide +kernel
theorem dL_law_869 : decode cL_law 869 = .ok (.aload_n 0, 1) := by decide +kernel
theorem dL_law_870 : decode cL_law 870 = .ok (.iload 4, 2) := by decide +kernel
theorem dL_law_872 : decode cL_law 872 = .ok (.iconst 1, 1) := by decide +kernel
theorem dL_law_873 : decode cL_law 873 = .ok (.iadd, 1) := by decide +kernel
theorem dL_law_874 : decode cL_law 874 = .ok (.iaload, 1) := by decide +kernel
theorem dL_law_875 : decode cL_law 875 = .ok (.aload_n 3, 1) := by decide +kernel
theorem dL_law_876 : decode cL_law 876 = .ok (.invokestatic 136, 3) := by decide +kernel
theorem dL_law_879 : decode cL_law 879 = .ok (.istore 5, 2) := by decide +kernel
theorem dL_law_881 : decode cL_law 881 = .ok (.aload_n 2, 1) := by decide +kernel
theorem dL_law_882 : decode cL_law 882 = .ok (.aload_n 0, 1) := by decide +kernel
theorem dL_law_883 : decode cL_law 883 = .ok (.iload 4, 2) := by decide +kernel
theorem dL_law_885 : decode cL_law 885 = .ok (.iconst 1, 1) := by decide +kernel
theorem dL_law_886 : decode cL_law 886 = .ok (.iadd, 1) := by decide +kernel
theorem dL_law_887 : decode cL_law 887 = .ok (.iaload, 1) := by decide +kernel
theorem dL_law_888 : decode cL_law 888 = .ok (.invokevirtual 138, 3) := by decide +kernel
theorem dL_law_891 : decode cL_law 891 = .ok (.istore 6, 2) := by decide +kernel
theorem dL_law_893 : decode cL_law 893 = .ok (.aload_n 2, 1) := by decide +kernel
theorem dL_law_894 : decode cL_law 894 = .ok (.invokevirtual 93, 3) := by decide +kernel
theorem dL_law_897 : decode cL_law 897 = .ok (.iload 5, 2) := by decide +kernel
theorem dL_law_899 : decode cL_law 899 = .ok (.if_icmp .eq 5, 3) := by decide +kernel
theorem dL_law_902 : decode cL_law 902 = .ok (.iconst 0, 1) := by decide +kernel
theorem dL_law_903 : decode cL_law 903 = .ok (.ireturn, 1) := by decide +kernel
theorem dL_law_904 : decode cL_law 904 = .ok (.iload 5, 2) := by decide +kernel
theorem dL_law_906 : decode cL_law 906 = .ok (.ifCond .ne 15, 3) := by decide +kernel
theorem dL_law_909 : decode cL_law 909 = .ok (.aload_n 3, 1) := by decide +kernel
theorem dL_law_910 : decode cL_law 910 = .ok (.iconst 0, 1) := by decide +kernel
theorem dL_law_911 : decode cL_law 911 = .ok (.laload, 1) := by decide +kernel
theorem dL_law_912 : decode cL_law 912 = .ok (.iload 6, 2) := by decide +kernel
theorem dL_law_914 : decode cL_law 914 = .ok (.i2l, 1) := by decide +kernel
theorem dL_law_915 : decode cL_law 915 = .ok (.lcmp, 1) := by decide +kernel
theorem dL_law_916 : decode cL_law 916 = .ok (.ifCond .eq 5, 3) := by decide +kernel
theorem dL_law_919 : decode cL_law 919 = .ok (.iconst 0, 1) := by decide +kernel
theorem dL_law_920 : decode cL_law 920 = .ok (.ireturn, 1) := by decide +kernel
theorem dL_law_921 : decode cL_law 921 = .ok (.goto 511, 3) := by decide +kernel
theorem dL_law_924 : decode cL_law 924 = .ok (.aload_n 1, 1) := by decide +kernel
theorem dL_law_925 : decode cL_law 925 = .ok (.aload_n 0, 1) := by decide +kernel
theorem dL_law_926 : decode cL_law 926 = .ok (.iload 4, 2) := by decide +kernel
theorem dL_law_928 : decode cL_law 928 = .ok (.iconst 1, 1) := by decide +kernel
theorem dL_law_929 : decode cL_law 929 = .ok (.iadd, 1) := by decide +kernel
theorem dL_law_930 : decode cL_law 930 = .ok (.iaload, 1) := by decide +kernel
theorem dL_law_931 : decode cL_law 931 = .ok (.aload_n 0, 1) := by decide +kernel
theorem dL_law_932 : decode cL_law 932 = .ok (.iload 4, 2) := by decide +kernel
theorem dL_law_934 : decode cL_law 934 = .ok (.iconst 2, 1) := by decide +kernel
theorem dL_law_935 : decode cL_law 935 = .ok (.iadd, 1) := by decide +kernel
theorem dL_law_936 : decode cL_law 936 = .ok (.iaload, 1) := by decide +kernel
theorem dL_law_937 : decode cL_law 937 = .ok (.aload_n 0, 1) := by decide +kernel
theorem dL_law_938 : decode cL_law 938 = .ok (.iload 4, 2) := by decide +kernel
theorem dL_law_940 : decode cL_law 940 = .ok (.iconst 3, 1) := by decide +kernel
theorem dL_law_941 : decode cL_law 941 = .ok (.iadd, 1) := by decide +kernel
theorem dL_law_942 : decode cL_law 942 = .ok (.iaload, 1) := by decide +kernel
theorem dL_law_943 : decode cL_law 943 = .ok (.aload_n 0, 1) := by decide +kernel
theorem dL_law_944 : decode cL_law 944 = .ok (.iload 4, 2) := by decide +kernel
theorem dL_law_946 : decode cL_law 946 = .ok (.iconst 4, 1) := by decide +kernel
theorem dL_law_947 : decode cL_law 947 = .ok (.iadd, 1) := by decide +kernel
theorem dL_law_948 : decode cL_law 948 = .ok (.iaload, 1) := by decide +kernel
theorem dL_law_949 : decode cL_law 949 = .ok (.aload_n 0, 1) := by decide +kernel
theorem dL_law_950 : decode cL_law 950 = .ok (.iload 4, 2) := by decide +kernel
theorem dL_law_952 : decode cL_law 952 = .ok (.iconst 5, 1) := by decide +kernel
theorem dL_law_953 : decode cL_law 953 = .ok (.iadd, 1) := by decide +kernel
theorem dL_law_954 : decode cL_law 954 = .ok (.iaload, 1) := by decide +kernel
theorem dL_law_955 : decode cL_law 955 = .ok (.aload_n 3, 1) := by decide +kernel
theorem dL_law_956 : decode cL_law 956 = .ok (.invokestatic 139, 3) := by decide +kernel
theorem dL_law_959 : decode cL_law 959 = .ok (.istore 5, 2) := by decide +kernel
theorem dL_law_961 : decode cL_law 961 = .ok (.aload_n 2, 1) := by decide +kernel
theorem dL_law_962 : decode cL_law 962 = .ok (.aload_n 0, 1) := by decide +kernel
theorem dL_law_963 : decode cL_law 963 = .ok (.iload 4, 2) := by decide +kernel
theorem dL_law_965 : decode cL_law 965 = .ok (.iconst 1, 1) := by decide +kernel
theorem dL_law_966 : decode cL_law 966 = .ok (.iadd, 1) := by decide +kernel
theorem dL_law_967 : decode cL_law 967 = .ok (.iaload, 1) := by decide +kernel
theorem dL_law_968 : decode cL_law 968 = .ok (.aload_n 0, 1) := by decide +kernel
theorem dL_law_969 : decode cL_law 969 = .ok (.iload 4, 2) := by decide +kernel
theorem dL_law_971 : decode cL_law 971 = .ok (.iconst 2, 1) := by decide +kernel
theorem dL_law_972 : decode cL_law 972 = .ok (.iadd, 1) := by decide +kernel
theorem dL_law_973 : decode cL_law 973 = .ok (.iaload, 1) := by decide +kernel
theorem dL_law_974 : decode cL_law 974 = .ok (.aload_n 0, 1) := by decide +kernel
theorem dL_law_975 : decode cL_law 975 = .ok (.iload 4, 2) := by decide +kernel
theorem dL_law_977 : decode cL_law 977 = .ok (.iconst 3, 1) := by decide +kernel
theorem dL_law_978 : decode cL_law 978 = .ok (.iadd, 1) := by decide +kernel
theorem dL_law_979 : decode cL_law 979 = .ok (.iaload, 1) := by decide +kernel
theorem dL_law_980 : decode cL_law 980 = .ok (.aload_n 0, 1) := by decide +kernel
theorem dL_law_981 : decode cL_law 981 = .ok (.iload 4, 2) := by decide +kernel
theorem dL_law_983 : decode cL_law 983 = .ok (.iconst 4, 1) := by decide +kernel
theorem dL_law_984 : decode cL_law 984 = .ok (.iadd, 1) := by decide +kernel
theorem dL_law_985 : decode cL_law 985 = .ok (.iaload, 1) := by decide +kernel
theorem dL_law_986 : decode cL_law 986 = .ok (.aload_n 0, 1) := by decide +kernel
theorem dL_law_987 : decode cL_law 987 = .ok (.iload 4, 2) := by decide +kernel
theorem dL_law_989 : decode cL_law 989 = .ok (.iconst 5, 1) := by decide +kernel
theorem dL_law_990 : decode cL_law 990 = .ok (.iadd, 1) := by decide +kernel
theorem dL_law_991 : decode cL_law 991 = .ok (.iaload, 1) := by decide +kernel
theorem dL_law_992 : decode cL_law 992 = .ok (.invokevirtual 142, 3) := by decide +kernel
theorem dL_law_995 : decode cL_law 995 = .ok (.istore 6, 2) := by decide +kernel
theorem dL_law_997 : decode cL_law 997 = .ok (.aload_n 2, 1) := by decide +kernel
theorem dL_law_998 : decode cL_law 998 = .ok (.invokevirtual 93, 3) := by decide +kernel
theorem dL_law_1001 : decode cL_law 1001 = .ok (.iload 5, 2) := by decide +kernel
theorem dL_law_1003 : decode cL_law 1003 = .ok (.if_icmp .eq 5, 3) := by decide +kernel
theorem dL_law_1006 : decode cL_law 1006 = .ok (.iconst 0, 1) := by decide +kernel
theorem dL_law_1007 : decode cL_law 1007 = .ok (.ireturn, 1) := by decide +kernel
theorem dL_law_1008 : decode cL_law 1008 = .ok (.iload 5, 2) := by decide +kernel
theorem dL_law_1010 : decode cL_law 1010 = .ok (.ifCond .ne 15, 3) := by decide +kernel
theorem dL_law_1013 : decode cL_law 1013 = .ok (.aload_n 3, 1) := by decide +kernel
theorem dL_law_1014 : decode cL_law 1014 = .ok (.iconst 0, 1) := by decide +kernel
theorem dL_law_1015 : decode cL_law 1015 = .ok (.laload, 1) := by decide +kernel
theorem dL_law_1016 : decode cL_law 1016 = .ok (.iload 6, 2) := by decide +kernel
theorem dL_law_1018 : decode cL_law 1018 = .ok (.i2l, 1) := by decide +kernel
theorem dL_law_1019 : decode cL_law 1019 = .ok (.lcmp, 1) := by decide +kernel
theorem dL_law_1020 : decode cL_law 1020 = .ok (.ifCond .eq 5, 3) := by decide +kernel
theorem dL_law_1023 : decode cL_law 1023 = .ok (.iconst 0, 1) := by decide +kernel
theorem dL_law_1024 : decode cL_law 1024 = .ok (.ireturn, 1) := by decide +kernel
theorem dL_law_1025 : decode cL_law 1025 = .ok (.goto 407, 3) := by decide +kernel
theorem dL_law_1028 : decode cL_law 1028 = .ok (.aload_n 1, 1) := by decide +kernel
theorem dL_law_1029 : decode cL_law 1029 = .ok (.aload_n 0, 1) := by decide +kernel
theorem dL_law_1030 : decode cL_law 1030 = .ok (.iload 4, 2) := by decide +kernel
theorem dL_law_1032 : decode cL_law 1032 = .ok (.iconst 1, 1) := by decide +kernel
theorem dL_law_1033 : decode cL_law 1033 = .ok (.iadd, 1) := by decide +kernel
theorem dL_law_1034 : decode cL_law 1034 = .ok (.iaload, 1) := by decide +kernel
theorem dL_law_1035 : decode cL_law 1035 = .ok (.aload_n 0, 1) := by decide +kernel
theorem dL_law_1036 : decode cL_law 1036 = .ok (.iload 4, 2) := by decide +kernel
theorem dL_law_1038 : decode cL_law 1038 = .ok (.iconst 2, 1) := by decide +kernel
theorem dL_law_1039 : decode cL_law 1039 = .ok (.iadd, 1) := by decide +kernel
theorem dL_law_1040 : decode cL_law 1040 = .ok (.iaload, 1) := by decide +kernel
theorem dL_law_1041 : decode cL_law 1041 = .ok (.aload_n 0, 1) := by decide +kernel
theorem dL_law_1042 : decode cL_law 1042 = .ok (.iload 4, 2) := by decide +kernel
theorem dL_law_1044 : decode cL_law 1044 = .ok (.iconst 3, 1) := by decide +kernel
theorem dL_law_1045 : decode cL_law 1045 = .ok (.iadd, 1) := by decide +kernel
theorem dL_law_1046 : decode cL_law 1046 = .ok (.iaload, 1) := by decide +kernel
theorem dL_law_1047 : decode cL_law 1047 = .ok (.aload_n 0, 1) := by decide +kernel
theorem dL_law_1048 : decode cL_law 1048 = .ok (.iload 4, 2) := by decide +kernel
theorem dL_law_1050 : decode cL_law 1050 = .ok (.iconst 4, 1) := by decide +kernel
theorem dL_law_1051 : decode cL_law 1051 = .ok (.iadd, 1) := by decide +kernel
theorem dL_law_1052 : decode cL_law 1052 = .ok (.iaload, 1) := by decide +kernel
theorem dL_law_1053 : decode cL_law 1053 = .ok (.aload_n 3, 1) := by decide +kernel
theorem dL_law_1054 : decode cL_law 1054 = .ok (.invokestatic 143, 3) := by decide +kernel
theorem dL_law_1057 : decode cL_law 1057 = .ok (.istore 5, 2) := by decide +kernel
theorem dL_law_1059 : decode cL_law 1059 = .ok (.aload_n 2, 1) := by decide +kernel
theorem dL_law_1060 : decode cL_law 1060 = .ok (.aload_n 0, 1) := by decide +kernel
theorem dL_law_1061 : decode cL_law 1061 = .ok (.iload 4, 2) := by decide +kernel
theorem dL_law_1063 : decode cL_law 1063 = .ok (.iconst 1, 1) := by decide +kernel
theorem dL_law_1064 : decode cL_law 1064 = .ok (.iadd, 1) := by decide +kernel
theorem dL_law_1065 : decode cL_law 1065 = .ok (.iaload, 1) := by decide +kernel
theorem dL_law_1066 : decode cL_law 1066 = .ok (.aload_n 0, 1) := by decide +kernel
theorem dL_law_1067 : decode cL_law 1067 = .ok (.iload 4, 2) := by decide +kernel
theorem dL_law_1069 : decode cL_law 1069 = .ok (.iconst 2, 1) := by decide +kernel
theorem dL_law_1070 : decode cL_law 1070 = .ok (.iadd, 1) := by decide +kernel
theorem dL_law_1071 : decode cL_law 1071 = .ok (.iaload, 1) := by decide +kernel
theorem dL_law_1072 : decode cL_law 1072 = .ok (.aload_n 0, 1) := by decide +kernel
theorem dL_law_1073 : decode cL_law 1073 = .ok (.iload 4, 2) := by decide +kernel
theorem dL_law_1075 : decode cL_law 1075 = .ok (.iconst 3, 1) := by decide +kernel
theorem dL_law_1076 : decode cL_law 1076 = .ok (.iadd, 1) := by decide +kernel
theorem dL_law_1077 : decode cL_law 1077 = .ok (.iaload, 1) := by decide +kernel
theorem dL_law_1078 : decode cL_law 1078 = .ok (.aload_n 0, 1) := by decide +kernel
theorem dL_law_1079 : decode cL_law 1079 = .ok (.iload 4, 2) := by decide +kernel
theorem dL_law_1081 : decode cL_law 1081 = .ok (.iconst 4, 1) := by decide +kernel
theorem dL_law_1082 : decode cL_law 1082 = .ok (.iadd, 1) := by decide +kernel
theorem dL_law_1083 : decode cL_law 1083 = .ok (.iaload, 1) := by decide +kernel
theorem dL_law_1084 : decode cL_law 1084 = .ok (.invokevirtual 146, 3) := by decide +kernel
theorem dL_law_1087 : decode cL_law 1087 = .ok (.istore 6, 2) := by decide +kernel
theorem dL_law_1089 : decode cL_law 1089 = .ok (.aload_n 2, 1) := by decide +kernel
theorem dL_law_1090 : decode cL_law 1090 = .ok (.invokevirtual 93, 3) := by decide +kernel
theorem dL_law_1093 : decode cL_law 1093 = .ok (.iload 5, 2) := by decide +kernel
theorem dL_law_1095 : decode cL_law 1095 = .ok (.if_icmp .eq 5, 3) := by decide +kernel
theorem dL_law_1098 : decode cL_law 1098 = .ok (.iconst 0, 1) := by decide +kernel
theorem dL_law_1099 : decode cL_law 1099 = .ok (.ireturn, 1) := by decide +kernel
theorem dL_law_1100 : decode cL_law 1100 = .ok (.iload 5, 2) := by decide +kernel
theorem dL_law_1102 : decode cL_law 1102 = .ok (.ifCond .ne 15, 3) := by decide +kernel
theorem dL_law_1105 : decode cL_law 1105 = .ok (.aload_n 3, 1) := by decide +kernel
theorem dL_law_1106 : decode cL_law 1106 = .ok (.iconst 0, 1) := by decide +kernel
theorem dL_law_1107 : decode cL_law 1107 = .ok (.laload, 1) := by decide +kernel
theorem dL_law_1108 : decode cL_law 1108 = .ok (.iload 6, 2) := by decide +kernel
theorem dL_law_1110 : decode cL_law 1110 = .ok (.i2l, 1) := by decide +kernel
theorem dL_law_1111 : decode cL_law 1111 = .ok (.lcmp, 1) := by decide +kernel
theorem dL_law_1112 : decode cL_law 1112 = .ok (.ifCond .eq 5, 3) := by decide +kernel
theorem dL_law_1115 : decode cL_law 1115 = .ok (.iconst 0, 1) := by decide +kernel
theorem dL_law_1116 : decode cL_law 1116 = .ok (.ireturn, 1) := by decide +kernel
theorem dL_law_1117 : decode cL_law 1117 = .ok (.goto 315, 3) := by decide +kernel
theorem dL_law_1120 : decode cL_law 1120 = .ok (.aload_n 1, 1) := by decide +kernel
theorem dL_law_1121 : decode cL_law 1121 = .ok (.aload_n 0, 1) := by decide +kernel
theorem dL_law_1122 : decode cL_law 1122 = .ok (.iload 4, 2) := by decide +kernel
theorem dL_law_1124 : decode cL_law 1124 = .ok (.iconst 1, 1) := by decide +kernel
theorem dL_law_1125 : decode cL_law 1125 = .ok (.iadd, 1) := by decide +kernel
theorem dL_law_1126 : decode cL_law 1126 = .ok (.iaload, 1) := by decide +kernel
theorem dL_law_1127 : decode cL_law 1127 = .ok (.aload_n 0, 1) := by decide +kernel
theorem dL_law_1128 : decode cL_law 1128 = .ok (.iload 4, 2) := by decide +kernel
theorem dL_law_1130 : decode cL_law 1130 = .ok (.iconst 2, 1) := by decide +kernel
theorem dL_law_1131 : decode cL_law 1131 = .ok (.iadd, 1) := by decide +kernel
theorem dL_law_1132 : decode cL_law 1132 = .ok (.iaload, 1) := by decide +kernel
theorem dL_law_1133 : decode cL_law 1133 = .ok (.aload_n 0, 1) := by decide +kernel
theorem dL_law_1134 : decode cL_law 1134 = .ok (.iload 4, 2) := by decide +kernel
theorem dL_law_1136 : decode cL_law 1136 = .ok (.iconst 3, 1) := by decide +kernel
theorem dL_law_1137 : decode cL_law 1137 = .ok (.iadd, 1) := by decide +kernel
theorem dL_law_1138 : decode cL_law 1138 = .ok (.iaload, 1) := by decide +kernel
theorem dL_law_1139 : decode cL_law 1139 = .ok (.aload_n 0, 1) := by decide +kernel
theorem dL_law_1140 : decode cL_law 1140 = .ok (.iload 4, 2) := by decide +kernel
theorem dL_law_1142 : decode cL_law 1142 = .ok (.iconst 4, 1) := by decide +kernel
theorem dL_law_1143 : decode cL_law 1143 = .ok (.iadd, 1) := by decide +kernel
theorem dL_law_1144 : decode cL_law 1144 = .ok (.iaload, 1) := by decide +kernel
theorem dL_law_1145 : decode cL_law 1145 = .ok (.invokestatic 147, 3) := by decide +kernel
theorem dL_law_1148 : decode cL_law 1148 = .ok (.istore 5, 2) := by decide +kernel
theorem dL_law_1150 : decode cL_law 1150 = .ok (.aload_n 2, 1) := by decide +kernel
theorem dL_law_1151 : decode cL_law 1151 = .ok (.aload_n 0, 1) := by decide +kernel
theorem dL_law_1152 : decode cL_law 1152 = .ok (.iload 4, 2) := by decide +kernel
theorem dL_law_1154 : decode cL_law 1154 = .ok (.iconst 1, 1) := by decide +kernel
theorem dL_law_1155 : decode cL_law 1155 = .ok (.iadd, 1) := by decide +kernel
theorem dL_law_1156 : decode cL_law 1156 = .ok (.iaload, 1) := by decide +kernel
theorem dL_law_1157 : decode cL_law 1157 = .ok (.aload_n 0, 1) := by decide +kernel
theorem dL_law_1158 : decode cL_law 1158 = .ok (.iload 4, 2) := by decide +kernel
theorem dL_law_1160 : decode cL_law 1160 = .ok (.iconst 2, 1) := by decide +kernel
theorem dL_law_1161 : decode cL_law 1161 = .ok (.iadd, 1) := by decide +kernel
theorem dL_law_1162 : decode cL_law 1162 = .ok (.iaload, 1) := by decide +kernel
theorem dL_law_1163 : decode cL_law 1163 = .ok (.aload_n 0, 1) := by decide +kernel
theorem dL_law_1164 : decode cL_law 1164 = .ok (.iload 4, 2) := by decide +kernel
theorem dL_law_1166 : decode cL_law 1166 = .ok (.iconst 3, 1) := by decide +kernel
theorem dL_law_1167 : decode cL_law 1167 = .ok (.iadd, 1) := by decide +kernel
theorem dL_law_1168 : decode cL_law 1168 = .ok (.iaload, 1) := by decide +kernel
theorem dL_law_1169 : decode cL_law 1169 = .ok (.aload_n 0, 1) := by decide +kernel
theorem dL_law_1170 : decode cL_law 1170 = .ok (.iload 4, 2) := by decide +kernel
theorem dL_law_1172 : decode cL_law 1172 = .ok (.iconst 4, 1) := by decide +kernel
theorem dL_law_1173 : decode cL_law 1173 = .ok (.iadd, 1) := by decide +kernel
theorem dL_law_1174 : decode cL_law 1174 = .ok (.iaload, 1) := by decide +kernel
theorem dL_law_1175 : decode cL_law 1175 = .ok (.invokevirtual 150, 3) := by decide +kernel
theorem dL_law_1178 : decode cL_law 1178 = .ok (.aload_n 2, 1) := by decide +kernel
theorem dL_law_1179 : decode cL_law 1179 = .ok (.invokevirtual 93, 3) := by decide +kernel
theorem dL_law_1182 : decode cL_law 1182 = .ok (.iload 5, 2) := by decide +kernel
theorem dL_law_1184 : decode cL_law 1184 = .ok (.if_icmp .eq 5, 3) := by decide +kernel
theorem dL_law_1187 : decode cL_law 1187 = .ok (.iconst 0, 1) := by decide +kernel
theorem dL_law_1188 : decode cL_law 1188 = .ok (.ireturn, 1) := by decide +kernel
theorem dL_law_1189 : decode cL_law 1189 = .ok (.goto 243, 3) := by decide +kernel
theorem dL_law_1192 : decode cL_law 1192 = .ok (.aload_n 1, 1) := by decide +kernel
theorem dL_law_1193 : decode cL_law 1193 = .ok (.aload_n 0, 1) := by decide +kernel
theorem dL_law_1194 : decode cL_law 1194 = .ok (.iload 4, 2) := by decide +kernel
theorem dL_law_1196 : decode cL_law 1196 = .ok (.iconst 1, 1) := by decide +kernel
theorem dL_law_1197 : decode cL_law 1197 = .ok (.iadd, 1) := by decide +kernel
theorem dL_law_1198 : decode cL_law 1198 = .ok (.iaload, 1) := by decide +kernel
theorem dL_law_1199 : decode cL_law 1199 = .ok (.aload_n 0, 1) := by decide +kernel
theorem dL_law_1200 : decode cL_law 1200 = .ok (.iload 4, 2) := by decide +kernel
theorem dL_law_1202 : decode cL_law 1202 = .ok (.iconst 2, 1) := by decide +kernel
theorem dL_law_1203 : decode cL_law 1203 = .ok (.iadd, 1) := by decide +kernel
theorem dL_law_1204 : decode cL_law 1204 = .ok (.iaload, 1) := by decide +kernel
theorem dL_law_1205 : decode cL_law 1205 = .ok (.aload_n 3, 1) := by decide +kernel
theorem dL_law_1206 : decode cL_law 1206 = .ok (.invokestatic 151, 3) := by decide +kernel
theorem dL_law_1209 : decode cL_law 1209 = .ok (.istore 5, 2) := by decide +kernel
theorem dL_law_1211 : decode cL_law 1211 = .ok (.aload_n 2, 1) := by decide +kernel
theorem dL_law_1212 : decode cL_law 1212 = .ok (.aload_n 0, 1) := by decide +kernel
theorem dL_law_1213 : decode cL_law 1213 = .ok (.iload 4, 2) := by decide +kernel
theorem dL_law_1215 : decode cL_law 1215 = .ok (.iconst 1, 1) := by decide +kernel
theorem dL_law_1216 : decode cL_law 1216 = .ok (.iadd, 1) := by decide +kernel
theorem dL_law_1217 : decode cL_law 1217 = .ok (.iaload, 1) := by decide +kernel
theorem dL_law_1218 : decode cL_law 1218 = .ok (.aload_n 0, 1) := by decide +kernel
theorem dL_law_1219 : decode cL_law 1219 = .ok (.iload 4, 2) := by decide +kernel
theorem dL_law_1221 : decode cL_law 1221 = .ok (.iconst 2, 1) := by decide +kernel
theorem dL_law_1222 : decode cL_law 1222 = .ok (.iadd, 1) := by decide +kernel
theorem dL_law_1223 : decode cL_law 1223 = .ok (.iaload, 1) := by decide +kernel
theorem dL_law_1224 : decode cL_law 1224 = .ok (.invokevirtual 153, 3) := by decide +kernel
theorem dL_law_1227 : decode cL_law 1227 = .ok (.istore 6, 2) := by decide +kernel
theorem dL_law_1229 : decode cL_law 1229 = .ok (.aload_n 2, 1) := by decide +kernel
theorem dL_law_1230 : decode cL_law 1230 = .ok (.invokevirtual 93, 3) := by decide +kernel
theorem dL_law_1233 : decode cL_law 1233 = .ok (.iload 5, 2) := by decide +kernel
theorem dL_law_1235 : decode cL_law 1235 = .ok (.if_icmp .eq 5, 3) := by decide +kernel
theorem dL_law_1238 : decode cL_law 1238 = .ok (.iconst 0, 1) := by decide +kernel
theorem dL_law_1239 : decode cL_law 1239 = .ok (.ireturn, 1) := by decide +kernel
theorem dL_law_1240 : decode cL_law 1240 = .ok (.iload 5, 2) := by decide +kernel
theorem dL_law_1242 : decode cL_law 1242 = .ok (.ifCond .ne 15, 3) := by decide +kernel
theorem dL_law_1245 : decode cL_law 1245 = .ok (.aload_n 3, 1) := by decide +kernel
theorem dL_law_1246 : decode cL_law 1246 = .ok (.iconst 0, 1) := by decide +kernel
theorem dL_law_1247 : decode cL_law 1247 = .ok (.laload, 1) := by decide +kernel
theorem dL_law_1248 : decode cL_law 1248 = .ok (.iload 6, 2) := by decide +kernel
theorem dL_law_1250 : decode cL_law 1250 = .ok (.i2l, 1) := by decide +kernel
theorem dL_law_1251 : decode cL_law 1251 = .ok (.lcmp, 1) := by decide +kernel
theorem dL_law_1252 : decode cL_law 1252 = .ok (.ifCond .eq 5, 3) := by decide +kernel
theorem dL_law_1255 : decode cL_law 1255 = .ok (.iconst 0, 1) := by decide +kernel
theorem dL_law_1256 : decode cL_law 1256 = .ok (.ireturn, 1) := by decide +kernel
theorem dL_law_1257 : decode cL_law 1257 = .ok (.goto 175, 3) := by decide +kernel
theorem dL_law_1260 : decode cL_law 1260 = .ok (.aload_n 1, 1) := by decide +kernel
theorem dL_law_1261 : decode cL_law 1261 = .ok (.aload_n 0, 1) := by decide +kernel
theorem dL_law_1262 : decode cL_law 1262 = .ok (.iload 4, 2) := by decide +kernel
theorem dL_law_1264 : decode cL_law 1264 = .ok (.iconst 1, 1) := by decide +kernel
theorem dL_law_1265 : decode cL_law 1265 = .ok (.iadd, 1) := by decide +kernel
theorem dL_law_1266 : decode cL_law 1266 = .ok (.iaload, 1) := by decide +kernel
theorem dL_law_1267 : decode cL_law 1267 = .ok (.aload_n 0, 1) := by decide +kernel
theorem dL_law_1268 : decode cL_law 1268 = .ok (.iload 4, 2) := by decide +kernel
theorem dL_law_1270 : decode cL_law 1270 = .ok (.iconst 2, 1) := by decide +kernel
theorem dL_law_1271 : decode cL_law 1271 = .ok (.iadd, 1) := by decide +kernel
theorem dL_law_1272 : decode cL_law 1272 = .ok (.iaload, 1) := by decide +kernel
theorem dL_law_1273 : decode cL_law 1273 = .ok (.ifCond .eq 7, 3) := by decide +kernel
theorem dL_law_1276 : decode cL_law 1276 = .ok (.iconst 1, 1) := by decide +kernel
theorem dL_law_1277 : decode cL_law 1277 = .ok (.goto 4, 3) := by decide +kernel
theorem dL_law_1280 : decode cL_law 1280 = .ok (.iconst 0, 1) := by decide +kernel
theorem dL_law_1281 : decode cL_law 1281 = .ok (.aload_n 3, 1) := by decide +kernel
theorem dL_law_1282 : decode cL_law 1282 = .ok (.invokestatic 154, 3) := by decide +kernel
theorem dL_law_1285 : decode cL_law 1285 = .ok (.istore 5, 2) := by decide +kernel
theorem dL_law_1287 : decode cL_law 1287 = .ok (.aload_n 2, 1) := by decide +kernel
theorem dL_law_1288 : decode cL_law 1288 = .ok (.aload_n 0, 1) := by decide +kernel
theorem dL_law_1289 : decode cL_law 1289 = .ok (.iload 4, 2) := by decide +kernel
theorem dL_law_1291 : decode cL_law 1291 = .ok (.iconst 1, 1) := by decide +kernel
theorem dL_law_1292 : decode cL_law 1292 = .ok (.iadd, 1) := by decide +kernel
theorem dL_law_1293 : decode cL_law 1293 = .ok (.iaload, 1) := by decide +kernel
theorem dL_law_1294 : decode cL_law 1294 = .ok (.aload_n 0, 1) := by decide +kernel
theorem dL_law_1295 : decode cL_law 1295 = .ok (.iload 4, 2) := by decide +kernel
theorem dL_law_1297 : decode cL_law 1297 = .ok (.iconst 2, 1) := by decide +kernel
theorem dL_law_1298 : decode cL_law 1298 = .ok (.iadd, 1) := by decide +kernel
theorem dL_law_1299 : decode cL_law 1299 = .ok (.iaload, 1) := by decide +kernel
theorem dL_law_1300 : decode cL_law 1300 = .ok (.ifCond .eq 7, 3) := by decide +kernel
theorem dL_law_1303 : decode cL_law 1303 = .ok (.iconst 1, 1) := by decide +kernel
theorem dL_law_1304 : decode cL_law 1304 = .ok (.goto 4, 3) := by decide +kernel
theorem dL_law_1307 : decode cL_law 1307 = .ok (.iconst 0, 1) := by decide +kernel
theorem dL_law_1308 : decode cL_law 1308 = .ok (.invokevirtual 157, 3) := by decide +kernel
theorem dL_law_1311 : decode cL_law 1311 = .ok (.istore 6, 2) := by decide +kernel
theorem dL_law_1313 : decode cL_law 1313 = .ok (.aload_n 2, 1) := by decide +kernel
theorem dL_law_1314 : decode cL_law 1314 = .ok (.invokevirtual 93, 3) := by decide +kernel
theorem dL_law_1317 : decode cL_law 1317 = .ok (.iload 5, 2) := by decide +kernel
theorem dL_law_1319 : decode cL_law 1319 = .ok (.if_icmp .eq 5, 3) := by decide +kernel
theorem dL_law_1322 : decode cL_law 1322 = .ok (.iconst 0, 1) := by decide +kernel
theorem dL_law_1323 : decode cL_law 1323 = .ok (.ireturn, 1) := by decide +kernel
theorem dL_law_1324 : decode cL_law 1324 = .ok (.iload 5, 2) := by decide +kernel
theorem dL_law_1326 : decode cL_law 1326 = .ok (.ifCond .ne 22, 3) := by decide +kernel
theorem dL_law_1329 : decode cL_law 1329 = .ok (.aload_n 3, 1) := by decide +kernel
theorem dL_law_1330 : decode cL_law 1330 = .ok (.iconst 0, 1) := by decide +kernel
theorem dL_law_1331 : decode cL_law 1331 = .ok (.laload, 1) := by decide +kernel
theorem dL_law_1332 : decode cL_law 1332 = .ok (.iload 6, 2) := by decide +kernel
theorem dL_law_1334 : decode cL_law 1334 = .ok (.ifCond .eq 7, 3) := by decide +kernel
theorem dL_law_1337 : decode cL_law 1337 = .ok (.lconst 1, 1) := by decide +kernel
theorem dL_law_1338 : decode cL_law 1338 = .ok (.goto 4, 3) := by decide +kernel
theorem dL_law_1341 : decode cL_law 1341 = .ok (.lconst 0, 1) := by decide +kernel
theorem dL_law_1342 : decode cL_law 1342 = .ok (.lcmp, 1) := by decide +kernel
theorem dL_law_1343 : decode cL_law 1343 = .ok (.ifCond .eq 5, 3) := by decide +kernel
theorem dL_law_1346 : decode cL_law 1346 = .ok (.iconst 0, 1) := by decide +kernel
theorem dL_law_1347 : decode cL_law 1347 = .ok (.ireturn, 1) := by decide +kernel
theorem dL_law_1348 : decode cL_law 1348 = .ok (.goto 84, 3) := by decide +kernel
theorem dL_law_1351 : decode cL_law 1351 = .ok (.aload_n 1, 1) := by decide +kernel
theorem dL_law_1352 : decode cL_law 1352 = .ok (.invokevirtual 158, 3) := by decide +kernel
theorem dL_law_1355 : decode cL_law 1355 = .ok (.aload_n 2, 1) := by decide +kernel
theorem dL_law_1356 : decode cL_law 1356 = .ok (.invokevirtual 161, 3) := by decide +kernel
theorem dL_law_1359 : decode cL_law 1359 = .ok (.if_icmp .eq 73, 3) := by decide +kernel
theorem dL_law_1362 : decode cL_law 1362 = .ok (.iconst 0, 1) := by decide +kernel
theorem dL_law_1363 : decode cL_law 1363 = .ok (.ireturn, 1) := by decide +kernel
theorem dL_law_1364 : decode cL_law 1364 = .ok (.aload_n 1, 1) := by decide +kernel
theorem dL_law_1365 : decode cL_law 1365 = .ok (.aload_n 0, 1) := by decide +kernel
theorem dL_law_1366 : decode cL_law 1366 = .ok (.iload 4, 2) := by decide +kernel
theorem dL_law_1368 : decode cL_law 1368 = .ok (.iconst 1, 1) := by decide +kernel
theorem dL_law_1369 : decode cL_law 1369 = .ok (.iadd, 1) := by decide +kernel
theorem dL_law_1370 : decode cL_law 1370 = .ok (.iaload, 1) := by decide +kernel
theorem dL_law_1371 : decode cL_law 1371 = .ok (.aload_n 0, 1) := by decide +kernel
theorem dL_law_1372 : decode cL_law 1372 = .ok (.iload 4, 2) := by decide +kernel
theorem dL_law_1374 : decode cL_law 1374 = .ok (.iconst 2, 1) := by decide +kernel
theorem dL_law_1375 : decode cL_law 1375 = .ok (.iadd, 1) := by decide +kernel
theorem dL_law_1376 : decode cL_law 1376 = .ok (.iaload, 1) := by decide +kernel
theorem dL_law_1377 : decode cL_law 1377 = .ok (.aload_n 3, 1) := by decide +kernel
theorem dL_law_1378 : decode cL_law 1378 = .ok (.invokestatic 162, 3) := by decide +kernel
theorem dL_law_1381 : decode cL_law 1381 = .ok (.istore 5, 2) := by decide +kernel
theorem dL_law_1383 : decode cL_law 1383 = .ok (.aload_n 2, 1) := by decide +kernel
theorem dL_law_1384 : decode cL_law 1384 = .ok (.aload_n 0, 1) := by decide +kernel
theorem dL_law_1385 : decode cL_law 1385 = .ok (.iload 4, 2) := by decide +kernel
theorem dL_law_1387 : decode cL_law 1387 = .ok (.iconst 1, 1) := by decide +kernel
theorem dL_law_1388 : decode cL_law 1388 = .ok (.iadd, 1) := by decide +kernel
theorem dL_law_1389 : decode cL_law 1389 = .ok (.iaload, 1) := by decide +kernel
theorem dL_law_1390 : decode cL_law 1390 = .ok (.aload_n 0, 1) := by decide +kernel
theorem dL_law_1391 : decode cL_law 1391 = .ok (.iload 4, 2) := by decide +kernel
theorem dL_law_1393 : decode cL_law 1393 = .ok (.iconst 2, 1) := by decide +kernel
theorem dL_law_1394 : decode cL_law 1394 = .ok (.iadd, 1) := by decide +kernel
theorem dL_law_1395 : decode cL_law 1395 = .ok (.iaload, 1) := by decide +kernel
theorem dL_law_1396 : decode cL_law 1396 = .ok (.invokevirtual 164, 3) := by decide +kernel
theorem dL_law_1399 : decode cL_law 1399 = .ok (.istore 6, 2) := by decide +kernel
theorem dL_law_1401 : decode cL_law 1401 = .ok (.aload_n 2, 1) := by decide +kernel
theorem dL_law_1402 : decode cL_law 1402 = .ok (.invokevirtual 93, 3) := by decide +kernel
theorem dL_law_1405 : decode cL_law 1405 = .ok (.iload 5, 2) := by decide +kernel
theorem dL_law_1407 : decode cL_law 1407 = .ok (.if_icmp .eq 5, 3) := by decide +kernel
theorem dL_law_1410 : decode cL_law 1410 = .ok (.iconst 0, 1) := by decide +kernel
theorem dL_law_1411 : decode cL_law 1411 = .ok (.ireturn, 1) := by decide +kernel
theorem dL_law_1412 : decode cL_law 1412 = .ok (.iload 5, 2) := by decide +kernel
theorem dL_law_1414 : decode cL_law 1414 = .ok (.ifCond .ne 15, 3) := by decide +kernel
theorem dL_law_1417 : decode cL_law 1417 = .ok (.aload_n 3, 1) := by decide +kernel
theorem dL_law_1418 : decode cL_law 1418 = .ok (.iconst 0, 1) := by decide +kernel
theorem dL_law_1419 : decode cL_law 1419 = .ok (.laload, 1) := by decide +kernel
theorem dL_law_1420 : decode cL_law 1420 = .ok (.iload 6, 2) := by decide +kernel
theorem dL_law_1422 : decode cL_law 1422 = .ok (.i2l, 1) := by decide +kernel
theorem dL_law_1423 : decode cL_law 1423 = .ok (.lcmp, 1) := by decide +kernel
theorem dL_law_1424 : decode cL_law 1424 = .ok (.ifCond .eq 5, 3) := by decide +kernel
theorem dL_law_1427 : decode cL_law 1427 = .ok (.iconst 0, 1) := by decide +kernel
theorem dL_law_1428 : decode cL_law 1428 = .ok (.ireturn, 1) := by decide +kernel
theorem dL_law_1429 : decode cL_law 1429 = .ok (.goto 3, 3) := by decide +kernel
theorem dL_law_1432 : decode cL_law 1432 = .ok (.iinc 4 6, 3) := by decide +kernel
theorem dL_law_1435 : decode cL_law 1435 = .ok (.goto (-1412), 3) := by decide +kernel
theorem dL_law_1438 : decode cL_law 1438 = .ok (.iconst 1, 1) := by decide +kernel
theorem dL_law_1439 : decode cL_law 1439 = .ok (.ireturn, 1) := by decide +kernel

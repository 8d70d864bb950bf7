theorem dX5_fast_21 : decode cX5_fast 21 = .ok (.iload_n 1, 1) := by decide +kernel
theorem dX5_fast_22 : decode cX5_fast 22 = .ok (.iaload, 1) := by decide +kernel
theorem dX5_fast_23 : decode cX5_fast 23 = .ok (.iconst 2, 1) := by decide +kernel
theorem dX5_fast_24 : decode cX5_fast 24 = .ok (.if_icmp .le 29, 3) := by decide +kernel
theorem dX5_fast_27 : decode cX5_fast 27 = .ok (.aload_n 0, 1) := by decide +kernel
theorem dX5_fast_28 : decode cX5_fast 28 = .ok (.getfield 46, 3) := by decide +kernel
theorem dX5_fast_31 : decode cX5_fast 31 = .ok (.iload_n 1, 1) := by decide +kernel
theorem dX5_fast_32 : decode cX5_fast 32 = .ok (.iaload, 1) := by decide +kernel
theorem dX5_fast_33 : decode cX5_fast 33 = .ok (.bipush 7, 2) := by decide +kernel
theorem dX5_fast_35 : decode cX5_fast 35 = .ok (.if_icmp .ge 18, 3) := by decide +kernel
theorem dX5_fast_38 : decode cX5_fast 38 = .ok (.aload_n 0, 1) := by decide +kernel
theorem dX5_fast_39 : decode cX5_fast 39 = .ok (.getfield 49, 3) := by decide +kernel
theorem dX5_fast_42 : decode cX5_fast 42 = .ok (.iload_n 1, 1) := by decide +kernel
theorem dX5_fast_43 : decode cX5_fast 43 = .ok (.iaload, 1) := by decide +kernel
theorem dX5_fast_44 : decode cX5_fast 44 = .ok (.bipush 18, 2) := by decide +kernel
theorem dX5_fast_46 : decode cX5_fast 46 = .ok (.if_icmp .gt 7, 3) := by decide +kernel
theorem dX5_fast_49 : decode cX5_fast 49 = .ok (.iconst 1, 1) := by decide +kernel
theorem dX5_fast_50 : decode cX5_fast 50 = .ok (.goto 4, 3) := by decide +kernel
theorem dX5_fast_53 : decode cX5_fast 53 = .ok (.iconst 0, 1) := by decide +kernel
theorem dX5_fast_54 : decode cX5_fast 54 = .ok (.ireturn, 1) := by decide +kernel
theorem dX5_point_0 : decode cX5_point 0 = .ok (.aload_n 0, 1) := by decide +kernel
theorem dX5_point_1 : decode cX5_point 1 = .ok (.iconst 0, 1) := by decide +kernel
theorem dX5_point_2 : decode cX5_point 2 = .ok (.putfield 85, 3) := by decide +kernel
theorem dX5_point_5 : decode cX5_point 5 = .ok (.iconst 0, 1) := by decide +kernel
theorem dX5_point_6 : decode cX5_point 6 = .ok (.istore_n 2, 1) := by decide +kernel
theorem dX5_point_7 : decode cX5_point 7 = .ok (.iconst 0, 1) := by decide +kernel
theorem dX5_point_8 : decode cX5_point 8 = .ok (.istore_n 3, 1) := by decide +kernel
theorem dX5_point_9 : decode cX5_point 9 = .ok (.iload_n 3, 1) := by decide +kernel
theorem dX5_point_10 : decode cX5_point 10 = .ok (.aload_n 0, 1) := by decide +kernel
theorem dX5_point_11 : decode cX5_point 11 = .ok (.getfield 167, 3) := by decide +kernel
theorem dX5_point_14 : decode cX5_point 14 = .ok (.if_icmp .ge 44, 3) := by decide +kernel
theorem dX5_point_17 : decode cX5_point 17 = .ok (.aload_n 0, 1) := by decide +kernel
theorem dX5_point_18 : decode cX5_point 18 = .ok (.getfield 46, 3) := by decide +kernel
theorem dX5_point_21 : decode cX5_point 21 = .ok (.iload_n 3, 1) := by decide +kernel
theorem dX5_point_22 : decode cX5_point 22 = .ok (.iaload, 1) := by decide +kernel
theorem dX5_point_23 : decode cX5_point 23 = .ok (.bipush 9, 2) := by decide +kernel
theorem dX5_point_25 : decode cX5_point 25 = .ok (.if_icmp .eq 17, 3) := by decide +kernel
theorem dX5_point_28 : decode cX5_point 28 = .ok (.aload_n 0, 1) := by decide +kernel
theorem dX5_point_29 : decode cX5_point 29 = .ok (.getfield 46, 3) := by decide +kernel
theorem dX5_point_32 : decode cX5_point 32 = .ok (.iload_n 3, 1) := by decide +kernel
theorem dX5_point_33 : decode cX5_point 33 = .ok (.iaload, 1) := by decide +kernel
theorem dX5_point_34 : decode cX5_point 34 = .ok (.bipush 10, 2) := by decide +kernel
theorem dX5_point_36 : decode cX5_point 36 = .ok (.if_icmp .eq 6, 3) := by decide +kernel
theorem dX5_point_39 : decode cX5_point 39 = .ok (.goto 13, 3) := by decide +kernel
theorem dX5_point_42 : decode cX5_point 42 = .ok (.iload_n 2, 1) := by decide +kernel
theorem dX5_point_43 : decode cX5_point 43 = .ok (.iload_n 1, 1) := by decide +kernel
theorem dX5_point_44 : decode cX5_point 44 = .ok (.if_icmp .ne 5, 3) := by decide +kernel
theorem dX5_point_47 : decode cX5_point 47 = .ok (.iload_n 3, 1) := by decide +kernel
theorem dX5_point_48 : decode cX5_point 48 = .ok (.ireturn, 1) := by decide +kernel
theorem dX5_point_49 : decode cX5_point 49 = .ok (.iinc 2 1, 3) := by decide +kernel
theorem dX5_point_52 : decode cX5_point 52 = .ok (.iinc 3 1, 3) := by decide +kernel
theorem dX5_point_55 : decode cX5_point 55 = .ok (.goto (-46), 3) := by decide +kernel
theorem dX5_point_58 : decode cX5_point 58 = .ok (.iconst (-1), 1) := by decide +kernel
theorem dX5_point_59 : decode cX5_point 59 = .ok (.ireturn, 1) := by decide +kernel
theorem dX5_at_0 : decode cX5_at 0 = .ok (.aload_n 0, 1) := by decide +kernel
theorem dX5_at_1 : decode cX5_at 1 = .ok (.iload_n 2, 1) := by decide +kernel
theorem dX5_at_2 : decode cX5_at 2 = .ok (.ifCond .lt 13, 3) := by decide +kernel
theorem dX5_at_5 : decode cX5_at 5 = .ok (.iload_n 2, 1) := by decide +kernel
theorem dX5_at_6 : decode cX5_at 6 = .ok (.bipush 64, 2) := by decide +kernel
theorem dX5_at_8 : decode cX5_at 8 = .ok (.if_icmp .ge 7, 3) := by decide +kernel
theorem dX5_at_11 : decode cX5_at 11 = .ok (.iconst 0, 1) := by decide +kernel
theorem dX5_at_12 : decode cX5_at 12 = .ok (.goto 4, 3) := by decide +kernel
theorem dX5_at_15 : decode cX5_at 15 = .ok (.iconst 1, 1) := by decide +kernel
theorem dX5_at_16 : decode cX5_at 16 = .ok (.putfield 85, 3) := by decide +kernel
theorem dX5_at_19 : decode cX5_at 19 = .ok (.aload_n 0, 1) := by decide +kernel
theorem dX5_at_20 : decode cX5_at 20 = .ok (.getfield 85, 3) := by decide +kernel
theorem dX5_at_23 : decode cX5_at 23 = .ok (.ifCond .le 7, 3) := by decide +kernel
theorem dX5_at_26 : decode cX5_at 26 = .ok (.iconst 0, 1) := by decide +kernel
theorem dX5_at_27 : decode cX5_at 27 = .ok (.goto 20, 3) := by decide +kernel
theorem dX5_at_30 : decode cX5_at 30 = .ok (.aload_n 0, 1) := by decide +kernel
theorem dX5_at_31 : decode cX5_at 31 = .ok (.getfield 7, 3) := by decide +kernel
theorem dX5_at_34 : decode cX5_at 34 = .ok (.iload_n 2, 1) := by decide +kernel
theorem dX5_at_35 : decode cX5_at 35 = .ok (.iload_n 1, 1) := by decide +kernel
theorem dX5_at_36 : decode cX5_at 36 = .ok (.ifCond .eq 8, 3) := by decide +kernel
theorem dX5_at_39 : decode cX5_at 39 = .ok (.bipush 64, 2) := by decide +kernel
theorem dX5_at_41 : decode cX5_at 41 = .ok (.goto 4, 3) := by decide +kernel
theorem dX5_at_44 : decode cX5_at 44 = .ok (.iconst 0, 1) := by decide +kernel
theorem dX5_at_45 : decode cX5_at 45 = .ok (.iadd, 1) := by decide +kernel
theorem dX5_at_46 : decode cX5_at 46 = .ok (.baload, 1) := by decide +kernel
theorem dX5_at_47 : decode cX5_at 47 = .ok (.ireturn, 1) := by decide +kernel
theorem dX5_put_0 : decode cX5_put 0 = .ok (.aload_n 0, 1) := by decide +kernel
theorem dX5_put_1 : decode cX5_put 1 = .ok (.iconst 0, 1) := by decide +kernel
theorem dX5_put_2 : decode cX5_put 2 = .ok (.putfield 85, 3) := by decide +kernel
theorem dX5_put_5 : decode cX5_put 5 = .ok (.iload_n 1, 1) := by decide +kernel
theorem dX5_put_6 : decode cX5_put 6 = .ok (.ifCond .lt 9, 3) := by decide +kernel
theorem dX5_put_9 : decode cX5_put 9 = .ok (.iload_n 1, 1) := by decide +kernel
theorem dX5_put_10 : decode cX5_put 10 = .ok (.bipush 64, 2) := by decide +kernel
theorem dX5_put_12 : decode cX5_put 12 = .ok (.if_icmp .lt 6, 3) := by decide +kernel
theorem dX5_put_15 : decode cX5_put 15 = .ok (.bipush (-4), 2) := by decide +kernel
theorem dX5_put_17 : decode cX5_put 17 = .ok (.ireturn, 1) := by decide +kernel
theorem dX5_put_18 : decode cX5_put 18 = .ok (.aload_n 0, 1) := by decide +kernel
theorem dX5_put_19 : decode cX5_put 19 = .ok (.getfield 7, 3) := by decide +kernel
theorem dX5_put_22 : decode cX5_put 22 = .ok (.iload_n 1, 1) := by decide +kernel
theorem dX5_put_23 : decode cX5_put 23 = .ok (.iload_n 2, 1) := by decide +kernel
theorem dX5_put_24 : decode cX5_put 24 = .ok (.bastore, 1) := by decide +kernel
theorem dX5_put_25 : decode cX5_put 25 = .ok (.aload_n 0, 1) := by decide +kernel
theorem dX5_put_26 : decode cX5_put 26 = .ok (.getfield 7, 3) := by decide +kernel
theorem dX5_put_29 : decode cX5_put 29 = .ok (.iload_n 1, 1) := by decide +kernel
theorem dX5_put_30 : decode cX5_put 30 = .ok (.bipush 64, 2) := by decide +kernel
theorem dX5_put_32 : decode cX5_put 32 = .ok (.iadd, 1) := by decide +kernel
theorem dX5_put_33 : decode cX5_put 33 = .ok (.iload_n 2, 1) := by decide +kernel
theorem dX5_put_34 : decode cX5_put 34 = .ok (.bastore, 1) := by decide +kernel
theorem dX5_put_35 : decode cX5_put 35 = .ok (.iconst 1, 1) := by decide +kernel
theorem dX5_put_36 : decode cX5_put 36 = .ok (.ireturn, 1) := by decide +kernel
theorem dX5_raised_0 : decode cX5_raised 0 = .ok (.aload_n 0, 1) := by decide +kernel
theorem dX5_raised_1 : decode cX5_raised 1 = .ok (.iconst 0, 1) := by decide +kernel
theorem dX5_raised_2 : decode cX5_raised 2 = .ok (.putfield 85, 3) := by decide +kernel
theorem dX5_raised_5 : decode cX5_raised 5 = .ok (.iload_n 1, 1) := by decide +kernel
theorem dX5_raised_6 : decode cX5_raised 6 = .ok (.ifCond .eq 10, 3) := by decide +kernel
theorem dX5_raised_9 : decode cX5_raised 9 = .ok (.aload_n 0, 1) := by decide +kernel
theorem dX5_raised_10 : decode cX5_raised 10 = .ok (.getfield 197, 3) := by decide +kernel
theorem dX5_raised_13 : decode cX5_raised 13 = .ok (.goto 7, 3) := by decide +kernel

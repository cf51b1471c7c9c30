theorem dX9_joinWays_8 : decode cX9_joinWays 8 = .ok (.iconst 0, 1) := by decide +kernel
theorem dX9_joinWays_9 : decode cX9_joinWays 9 = .ok (.istore_n 2, 1) := by decide +kernel
theorem dX9_joinWays_10 : decode cX9_joinWays 10 = .ok (.iload_n 2, 1) := by decide +kernel
theorem dX9_joinWays_11 : decode cX9_joinWays 11 = .ok (.bipush 6, 2) := by decide +kernel
theorem dX9_joinWays_13 : decode cX9_joinWays 13 = .ok (.if_icmp .ge 15, 3) := by decide +kernel
theorem dX9_joinWays_16 : decode cX9_joinWays 16 = .ok (.aload_n 0, 1) := by decide +kernel
theorem dX9_joinWays_17 : decode cX9_joinWays 17 = .ok (.iload_n 1, 1) := by decide +kernel
theorem dX9_joinWays_18 : decode cX9_joinWays 18 = .ok (.iload_n 2, 1) := by decide +kernel
theorem dX9_joinWays_19 : decode cX9_joinWays 19 = .ok (.invokevirtual 36, 3) := by decide +kernel
theorem dX9_joinWays_22 : decode cX9_joinWays 22 = .ok (.iinc 2 1, 3) := by decide +kernel
theorem dX9_joinWays_25 : decode cX9_joinWays 25 = .ok (.goto (-15), 3) := by decide +kernel
theorem dX9_joinWays_28 : decode cX9_joinWays 28 = .ok (.iinc 1 1, 3) := by decide +kernel
theorem dX9_joinWays_31 : decode cX9_joinWays 31 = .ok (.goto (-29), 3) := by decide +kernel
theorem dX9_joinWays_34 : decode cX9_joinWays 34 = .ok (.return_, 1) := by decide +kernel
theorem dX9_joinThrough_0 : decode cX9_joinThrough 0 = .ok (.aload_n 0, 1) := by decide +kernel
theorem dX9_joinThrough_1 : decode cX9_joinThrough 1 = .ok (.iload_n 2, 1) := by decide +kernel
theorem dX9_joinThrough_2 : decode cX9_joinThrough 2 = .ok (.iload_n 1, 1) := by decide +kernel
theorem dX9_joinThrough_3 : decode cX9_joinThrough 3 = .ok (.invokevirtual 40, 3) := by decide +kernel
theorem dX9_joinThrough_6 : decode cX9_joinThrough 6 = .ok (.istore_n 3, 1) := by decide +kernel
theorem dX9_joinThrough_7 : decode cX9_joinThrough 7 = .ok (.iload_n 3, 1) := by decide +kernel
theorem dX9_joinThrough_8 : decode cX9_joinThrough 8 = .ok (.ldc 19, 2) := by decide +kernel
theorem dX9_joinThrough_10 : decode cX9_joinThrough 10 = .ok (.if_icmp .ge 35, 3) := by decide +kernel
theorem dX9_joinThrough_13 : decode cX9_joinThrough 13 = .ok (.iconst 0, 1) := by decide +kernel
theorem dX9_joinThrough_14 : decode cX9_joinThrough 14 = .ok (.istore 4, 2) := by decide +kernel
theorem dX9_joinThrough_16 : decode cX9_joinThrough 16 = .ok (.iload 4, 2) := by decide +kernel
theorem dX9_joinThrough_18 : decode cX9_joinThrough 18 = .ok (.bipush 6, 2) := by decide +kernel
theorem dX9_joinThrough_20 : decode cX9_joinThrough 20 = .ok (.if_icmp .ge 25, 3) := by decide +kernel
theorem dX9_joinThrough_23 : decode cX9_joinThrough 23 = .ok (.aload_n 0, 1) := by decide +kernel
theorem dX9_joinThrough_24 : decode cX9_joinThrough 24 = .ok (.iload_n 2, 1) := by decide +kernel
theorem dX9_joinThrough_25 : decode cX9_joinThrough 25 = .ok (.iload 4, 2) := by decide +kernel
theorem dX9_joinThrough_27 : decode cX9_joinThrough 27 = .ok (.iload_n 3, 1) := by decide +kernel
theorem dX9_joinThrough_28 : decode cX9_joinThrough 28 = .ok (.aload_n 0, 1) := by decide +kernel
theorem dX9_joinThrough_29 : decode cX9_joinThrough 29 = .ok (.iload_n 1, 1) := by decide +kernel
theorem dX9_joinThrough_30 : decode cX9_joinThrough 30 = .ok (.iload 4, 2) := by decide +kernel
theorem dX9_joinThrough_32 : decode cX9_joinThrough 32 = .ok (.invokevirtual 40, 3) := by decide +kernel
theorem dX9_joinThrough_35 : decode cX9_joinThrough 35 = .ok (.iadd, 1) := by decide +kernel
theorem dX9_joinThrough_36 : decode cX9_joinThrough 36 = .ok (.invokevirtual 26, 3) := by decide +kernel
theorem dX9_joinThrough_39 : decode cX9_joinThrough 39 = .ok (.iinc 4 1, 3) := by decide +kernel
theorem dX9_joinThrough_42 : decode cX9_joinThrough 42 = .ok (.goto (-26), 3) := by decide +kernel
theorem dX9_joinThrough_45 : decode cX9_joinThrough 45 = .ok (.return_, 1) := by decide +kernel
theorem dX9_takeWithBond_0 : decode cX9_takeWithBond 0 = .ok (.iconst 0, 1) := by decide +kernel
theorem dX9_takeWithBond_1 : decode cX9_takeWithBond 1 = .ok (.istore 4, 2) := by decide +kernel
theorem dX9_takeWithBond_3 : decode cX9_takeWithBond 3 = .ok (.iload 4, 2) := by decide +kernel
theorem dX9_takeWithBond_5 : decode cX9_takeWithBond 5 = .ok (.bipush 6, 2) := by decide +kernel
theorem dX9_takeWithBond_7 : decode cX9_takeWithBond 7 = .ok (.if_icmp .ge 48, 3) := by decide +kernel
theorem dX9_takeWithBond_10 : decode cX9_takeWithBond 10 = .ok (.iconst 0, 1) := by decide +kernel
theorem dX9_takeWithBond_11 : decode cX9_takeWithBond 11 = .ok (.istore 5, 2) := by decide +kernel
theorem dX9_takeWithBond_13 : decode cX9_takeWithBond 13 = .ok (.iload 5, 2) := by decide +kernel
theorem dX9_takeWithBond_15 : decode cX9_takeWithBond 15 = .ok (.bipush 6, 2) := by decide +kernel
theorem dX9_takeWithBond_17 : decode cX9_takeWithBond 17 = .ok (.if_icmp .ge 32, 3) := by decide +kernel
theorem dX9_takeWithBond_20 : decode cX9_takeWithBond 20 = .ok (.aload_n 0, 1) := by decide +kernel
theorem dX9_takeWithBond_21 : decode cX9_takeWithBond 21 = .ok (.getfield 9, 3) := by decide +kernel
theorem dX9_takeWithBond_24 : decode cX9_takeWithBond 24 = .ok (.iload 4, 2) := by decide +kernel
theorem dX9_takeWithBond_26 : decode cX9_takeWithBond 26 = .ok (.bipush 6, 2) := by decide +kernel
theorem dX9_takeWithBond_28 : decode cX9_takeWithBond 28 = .ok (.imul, 1) := by decide +kernel
theorem dX9_takeWithBond_29 : decode cX9_takeWithBond 29 = .ok (.iload 5, 2) := by decide +kernel
theorem dX9_takeWithBond_31 : decode cX9_takeWithBond 31 = .ok (.iadd, 1) := by decide +kernel
theorem dX9_takeWithBond_32 : decode cX9_takeWithBond 32 = .ok (.aload_n 1, 1) := by decide +kernel
theorem dX9_takeWithBond_33 : decode cX9_takeWithBond 33 = .ok (.iload 4, 2) := by decide +kernel
theorem dX9_takeWithBond_35 : decode cX9_takeWithBond 35 = .ok (.iload 5, 2) := by decide +kernel
theorem dX9_takeWithBond_37 : decode cX9_takeWithBond 37 = .ok (.iload_n 2, 1) := by decide +kernel
theorem dX9_takeWithBond_38 : decode cX9_takeWithBond 38 = .ok (.iload_n 3, 1) := by decide +kernel
theorem dX9_takeWithBond_39 : decode cX9_takeWithBond 39 = .ok (.invokevirtual 43, 3) := by decide +kernel
theorem dX9_takeWithBond_42 : decode cX9_takeWithBond 42 = .ok (.iastore, 1) := by decide +kernel
theorem dX9_takeWithBond_43 : decode cX9_takeWithBond 43 = .ok (.iinc 5 1, 3) := by decide +kernel
theorem dX9_takeWithBond_46 : decode cX9_takeWithBond 46 = .ok (.goto (-33), 3) := by decide +kernel
theorem dX9_takeWithBond_49 : decode cX9_takeWithBond 49 = .ok (.iinc 4 1, 3) := by decide +kernel
theorem dX9_takeWithBond_52 : decode cX9_takeWithBond 52 = .ok (.goto (-49), 3) := by decide +kernel
theorem dX9_takeWithBond_55 : decode cX9_takeWithBond 55 = .ok (.return_, 1) := by decide +kernel
theorem dX9_areWithin_0 : decode cX9_areWithin 0 = .ok (.iconst 0, 1) := by decide +kernel
theorem dX9_areWithin_1 : decode cX9_areWithin 1 = .ok (.istore_n 2, 1) := by decide +kernel
theorem dX9_areWithin_2 : decode cX9_areWithin 2 = .ok (.iload_n 2, 1) := by decide +kernel
theorem dX9_areWithin_3 : decode cX9_areWithin 3 = .ok (.aload_n 0, 1) := by decide +kernel
theorem dX9_areWithin_4 : decode cX9_areWithin 4 = .ok (.getfield 9, 3) := by decide +kernel
theorem dX9_areWithin_7 : decode cX9_areWithin 7 = .ok (.arraylength, 1) := by decide +kernel
theorem dX9_areWithin_8 : decode cX9_areWithin 8 = .ok (.if_icmp .ge 21, 3) := by decide +kernel
theorem dX9_areWithin_11 : decode cX9_areWithin 11 = .ok (.aload_n 0, 1) := by decide +kernel
theorem dX9_areWithin_12 : decode cX9_areWithin 12 = .ok (.getfield 9, 3) := by decide +kernel
theorem dX9_areWithin_15 : decode cX9_areWithin 15 = .ok (.iload_n 2, 1) := by decide +kernel
theorem dX9_areWithin_16 : decode cX9_areWithin 16 = .ok (.iaload, 1) := by decide +kernel
theorem dX9_areWithin_17 : decode cX9_areWithin 17 = .ok (.iload_n 1, 1) := by decide +kernel
theorem dX9_areWithin_18 : decode cX9_areWithin 18 = .ok (.if_icmp .le 5, 3) := by decide +kernel
theorem dX9_areWithin_21 : decode cX9_areWithin 21 = .ok (.iconst 0, 1) := by decide +kernel
theorem dX9_areWithin_22 : decode cX9_areWithin 22 = .ok (.ireturn, 1) := by decide +kernel
theorem dX9_areWithin_23 : decode cX9_areWithin 23 = .ok (.iinc 2 1, 3) := by decide +kernel
theorem dX9_areWithin_26 : decode cX9_areWithin 26 = .ok (.goto (-24), 3) := by decide +kernel
theorem dX9_areWithin_29 : decode cX9_areWithin 29 = .ok (.iconst 1, 1) := by decide +kernel
theorem dX9_areWithin_30 : decode cX9_areWithin 30 = .ok (.ireturn, 1) := by decide +kernel
theorem dX9_areWithinWithBond_0 : decode cX9_areWithinWithBond 0 = .ok (.iconst 0, 1) := by decide +kernel
theorem dX9_areWithinWithBond_1 : decode cX9_areWithinWithBond 1 = .ok (.istore 4, 2) := by decide +kernel
theorem dX9_areWithinWithBond_3 : decode cX9_areWithinWithBond 3 = .ok (.iload 4, 2) := by decide +kernel
theorem dX9_areWithinWithBond_5 : decode cX9_areWithinWithBond 5 = .ok (.bipush 6, 2) := by decide +kernel
theorem dX9_areWithinWithBond_7 : decode cX9_areWithinWithBond 7 = .ok (.if_icmp .ge 41, 3) := by decide +kernel
theorem dX9_areWithinWithBond_10 : decode cX9_areWithinWithBond 10 = .ok (.iconst 0, 1) := by decide +kernel
theorem dX9_areWithinWithBond_11 : decode cX9_areWithinWithBond 11 = .ok (.istore 5, 2) := by decide +kernel
theorem dX9_areWithinWithBond_13 : decode cX9_areWithinWithBond 13 = .ok (.iload 5, 2) := by decide +kernel
theorem dX9_areWithinWithBond_15 : decode cX9_areWithinWithBond 15 = .ok (.bipush 6, 2) := by decide +kernel
theorem dX9_areWithinWithBond_17 : decode cX9_areWithinWithBond 17 = .ok (.if_icmp .ge 25, 3) := by decide +kernel
theorem dX9_areWithinWithBond_20 : decode cX9_areWithinWithBond 20 = .ok (.aload_n 0, 1) := by decide +kernel
theorem dX9_areWithinWithBond_21 : decode cX9_areWithinWithBond 21 = .ok (.iload 4, 2) := by decide +kernel
theorem dX9_areWithinWithBond_23 : decode cX9_areWithinWithBond 23 = .ok (.iload 5, 2) := by decide +kernel
theorem dX9_areWithinWithBond_25 : decode cX9_areWithinWithBond 25 = .ok (.iload_n 2, 1) := by decide +kernel
theorem dX9_areWithinWithBond_26 : decode cX9_areWithinWithBond 26 = .ok (.iload_n 3, 1) := by decide +kernel
theorem dX9_areWithinWithBond_27 : decode cX9_areWithinWithBond 27 = .ok (.invokevirtual 43, 3) := by decide +kernel
theorem dX9_areWithinWithBond_30 : decode cX9_areWithinWithBond 30 = .ok (.iload_n 1, 1) := by decide +kernel
theorem dX9_areWithinWithBond_31 : decode cX9_areWithinWithBond 31 = .ok (.if_icmp .le 5, 3) := by decide +kernel
theorem dX9_areWithinWithBond_34 : decode cX9_areWithinWithBond 34 = .ok (.iconst 0, 1) := by decide +kernel
theorem dX9_areWithinWithBond_35 : decode cX9_areWithinWithBond 35 = .ok (.ireturn, 1) := by decide +kernel
theorem dX9_areWithinWithBond_36 : decode cX9_areWithinWithBond 36 = .ok (.iinc 5 1, 3) := by decide +kernel
theorem dX9_areWithinWithBond_39 : decode cX9_areWithinWithBond 39 = .ok (.goto (-26), 3) := by decide +kernel
theorem dX9_areWithinWithBond_42 : decode cX9_areWithinWithBond 42 = .ok (.iinc 4 1, 3) := by decide +kernel
theorem dX9_areWithinWithBond_45 : decode cX9_areWithinWithBond 45 = .ok (.goto (-42), 3) := by decide +kernel
theorem dX9_areWithinWithBond_48 : decode cX9_areWithinWithBond 48 = .ok (.iconst 1, 1) := by decide +kernel
theorem dX9_areWithinWithBond_49 : decode cX9_areWithinWithBond 49 = .ok (.ireturn, 1) := by decide +kernel
theorem dX9_betweenWithBond_0 : decode cX9_betweenWithBond 0 = .ok (.aload_n 0, 1) := by decide +kernel
theorem dX9_betweenWithBond_1 : decode cX9_betweenWithBond 1 = .ok (.iload_n 1, 1) := by decide +kernel
theorem dX9_betweenWithBond_2 : decode cX9_betweenWithBond 2 = .ok (.iload_n 3, 1) := by decide +kernel
theorem dX9_betweenWithBond_3 : decode cX9_betweenWithBond 3 = .ok (.invokevirtual 40, 3) := by decide +kernel
theorem dX9_betweenWithBond_6 : decode cX9_betweenWithBond 6 = .ok (.iconst 1, 1) := by decide +kernel
theorem dX9_betweenWithBond_7 : decode cX9_betweenWithBond 7 = .ok (.iadd, 1) := by decide +kernel
theorem dX9_betweenWithBond_8 : decode cX9_betweenWithBond 8 = .ok (.aload_n 0, 1) := by decide +kernel
theorem dX9_betweenWithBond_9 : decode cX9_betweenWithBond 9 = .ok (.iload 4, 2) := by decide +kernel
theorem dX9_betweenWithBond_11 : decode cX9_betweenWithBond 11 = .ok (.iload_n 2, 1) := by decide +kernel
theorem dX9_betweenWithBond_12 : decode cX9_betweenWithBond 12 = .ok (.invokevirtual 40, 3) := by decide +kernel
theorem dX9_betweenWithBond_15 : decode cX9_betweenWithBond 15 = .ok (.iadd, 1) := by decide +kernel
theorem dX9_betweenWithBond_16 : decode cX9_betweenWithBond 16 = .ok (.istore 5, 2) := by decide +kernel
theorem dX9_betweenWithBond_18 : decode cX9_betweenWithBond 18 = .ok (.aload_n 0, 1) := by decide +kernel
theorem dX9_betweenWithBond_19 : decode cX9_betweenWithBond 19 = .ok (.iload_n 1, 1) := by decide +kernel
theorem dX9_betweenWithBond_20 : decode cX9_betweenWithBond 20 = .ok (.iload 4, 2) := by decide +kernel
theorem dX9_betweenWithBond_22 : decode cX9_betweenWithBond 22 = .ok (.invokevirtual 40, 3) := by decide +kernel
theorem dX9_betweenWithBond_25 : decode cX9_betweenWithBond 25 = .ok (.iconst 1, 1) := by decide +kernel
theorem dX9_betweenWithBond_26 : decode cX9_betweenWithBond 26 = .ok (.iadd, 1) := by decide +kernel
theorem dX9_betweenWithBond_27 : decode cX9_betweenWithBond 27 = .ok (.aload_n 0, 1) := by decide +kernel
theorem dX9_betweenWithBond_28 : decode cX9_betweenWithBond 28 = .ok (.iload_n 3, 1) := by decide +kernel
theorem dX9_betweenWithBond_29 : decode cX9_betweenWithBond 29 = .ok (.iload_n 2, 1) := by decide +kernel
theorem dX9_betweenWithBond_30 : decode cX9_betweenWithBond 30 = .ok (.invokevirtual 40, 3) := by decide +kernel
theorem dX9_betweenWithBond_33 : decode cX9_betweenWithBond 33 = .ok (.iadd, 1) := by decide +kernel
theorem dX9_betweenWithBond_34 : decode cX9_betweenWithBond 34 = .ok (.istore 6, 2) := by decide +kernel
theorem dX9_betweenWithBond_36 : decode cX9_betweenWithBond 36 = .ok (.aload_n 0, 1) := by decide +kernel
theorem dX9_betweenWithBond_37 : decode cX9_betweenWithBond 37 = .ok (.iload_n 1, 1) := by decide +kernel
theorem dX9_betweenWithBond_38 : decode cX9_betweenWithBond 38 = .ok (.iload_n 2, 1) := by decide +kernel
theorem dX9_betweenWithBond_39 : decode cX9_betweenWithBond 39 = .ok (.invokevirtual 40, 3) := by decide +kernel
theorem dX9_betweenWithBond_42 : decode cX9_betweenWithBond 42 = .ok (.iload 5, 2) := by decide +kernel
theorem dX9_betweenWithBond_44 : decode cX9_betweenWithBond 44 = .ok (.iload 6, 2) := by decide +kernel
theorem dX9_betweenWithBond_46 : decode cX9_betweenWithBond 46 = .ok (.invokestatic 30, 3) := by decide +kernel
theorem dX9_betweenWithBond_49 : decode cX9_betweenWithBond 49 = .ok (.invokestatic 30, 3) := by decide +kernel
theorem dX9_betweenWithBond_52 : decode cX9_betweenWithBond 52 = .ok (.ireturn, 1) := by decide +kernel
theorem dX10_init_0 : decode cX10_init 0 = .ok (.aload_n 0, 1) := by decide +kernel
theorem dX10_init_1 : decode cX10_init 1 = .ok (.invokespecial 1, 3) := by decide +kernel
theorem dX10_init_4 : decode cX10_init 4 = .ok (.aload_n 0, 1) := by decide +kernel
theorem dX10_init_5 : decode cX10_init 5 = .ok (.new 7, 3) := by decide +kernel
theorem dX10_init_8 : decode cX10_init 8 = .ok (.dup, 1) := by decide +kernel
theorem dX10_init_9 : decode cX10_init 9 = .ok (.invokespecial 9, 3) := by decide +kernel
theorem dX10_init_12 : decode cX10_init 12 = .ok (.putfield 10, 3) := by decide +kernel
theorem dX10_init_15 : decode cX10_init 15 = .ok (.aload_n 0, 1) := by decide +kernel
theorem dX10_init_16 : decode cX10_init 16 = .ok (.new 16, 3) := by decide +kernel
theorem dX10_init_19 : decode cX10_init 19 = .ok (.dup, 1) := by decide +kernel
theorem dX10_init_20 : decode cX10_init 20 = .ok (.invokespecial 18, 3) := by decide +kernel
theorem dX10_init_23 : decode cX10_init 23 = .ok (.putfield 19, 3) := by decide +kernel
theorem dX10_init_26 : decode cX10_init 26 = .ok (.aload_n 0, 1) := by decide +kernel
theorem dX10_init_27 : decode cX10_init 27 = .ok (.new 23, 3) := by decide +kernel
theorem dX10_init_30 : decode cX10_init 30 = .ok (.dup, 1) := by decide +kernel
theorem dX10_init_31 : decode cX10_init 31 = .ok (.invokespecial 25, 3) := by decide +kernel
theorem dX10_init_34 : decode cX10_init 34 = .ok (.putfield 26, 3) := by decide +kernel
theorem dX10_init_37 : decode cX10_init 37 = .ok (.aload_n 0, 1) := by decide +kernel
theorem dX10_init_38 : decode cX10_init 38 = .ok (.new 30, 3) := by decide +kernel
theorem dX10_init_41 : decode cX10_init 41 = .ok (.dup, 1) := by decide +kernel
theorem dX10_init_42 : decode cX10_init 42 = .ok (.invokespecial 32, 3) := by decide +kernel
theorem dX10_init_45 : decode cX10_init 45 = .ok (.putfield 33, 3) := by decide +kernel
theorem dX10_init_48 : decode cX10_init 48 = .ok (.aload_n 0, 1) := by decide +kernel
theorem dX10_init_49 : decode cX10_init 49 = .ok (.new 37, 3) := by decide +kernel
theorem dX10_init_52 : decode cX10_init 52 = .ok (.dup, 1) := by decide +kernel
theorem dX10_init_53 : decode cX10_init 53 = .ok (.invokespecial 39, 3) := by decide +kernel
theorem dX10_init_56 : decode cX10_init 56 = .ok (.putfield 40, 3) := by decide +kernel
theorem dX10_init_59 : decode cX10_init 59 = .ok (.aload_n 0, 1) := by decide +kernel
theorem dX10_init_60 : decode cX10_init 60 = .ok (.new 44, 3) := by decide +kernel
theorem dX10_init_63 : decode cX10_init 63 = .ok (.dup, 1) := by decide +kernel
theorem dX10_init_64 : decode cX10_init 64 = .ok (.invokespecial 46, 3) := by decide +kernel
theorem dX10_init_67 : decode cX10_init 67 = .ok (.putfield 47, 3) := by decide +kernel
theorem dX10_init_70 : decode cX10_init 70 = .ok (.aload_n 0, 1) := by decide +kernel
theorem dX10_init_71 : decode cX10_init 71 = .ok (.new 51, 3) := by decide +kernel
theorem dX10_init_74 : decode cX10_init 74 = .ok (.dup, 1) := by decide +kernel
theorem dX10_init_75 : decode cX10_init 75 = .ok (.invokespecial 53, 3) := by decide +kernel
theorem dX10_init_78 : decode cX10_init 78 = .ok (.putfield 54, 3) := by decide +kernel
theorem dX10_init_81 : decode cX10_init 81 = .ok (.aload_n 0, 1) := by decide +kernel
theorem dX10_init_82 : decode cX10_init 82 = .ok (.bipush 10, 2) := by decide +kernel
theorem dX10_init_84 : decode cX10_init 84 = .ok (.newarray .int, 2) := by decide +kernel
theorem dX10_init_86 : decode cX10_init 86 = .ok (.putfield 58, 3) := by decide +kernel
theorem dX10_init_89 : decode cX10_init 89 = .ok (.aload_n 0, 1) := by decide +kernel
theorem dX10_init_90 : decode cX10_init 90 = .ok (.new 62, 3) := by decide +kernel
theorem dX10_init_93 : decode cX10_init 93 = .ok (.dup, 1) := by decide +kernel
theorem dX10_init_94 : decode cX10_init 94 = .ok (.invokespecial 64, 3) := by decide +kernel
theorem dX10_init_97 : decode cX10_init 97 = .ok (.putfield 65, 3) := by decide +kernel
theorem dX10_init_100 : decode cX10_init 100 = .ok (.aload_n 0, 1) := by decide +kernel
theorem dX10_init_101 : decode cX10_init 101 = .ok (.new 62, 3) := by decide +kernel
theorem dX10_init_104 : decode cX10_init 104 = .ok (.dup, 1) := by decide +kernel
theorem dX10_init_105 : decode cX10_init 105 = .ok (.invokespecial 64, 3) := by decide +kernel
theorem dX10_init_108 : decode cX10_init 108 = .ok (.putfield 69, 3) := by decide +kernel
theorem dX10_init_111 : decode cX10_init 111 = .ok (.return_, 1) := by decide +kernel
theorem dX10_road_0 : decode cX10_road 0 = .ok (.iload_n 1, 1) := by decide +kernel
theorem dX10_road_1 : decode cX10_road 1 = .ok (.invokestatic 72, 3) := by decide +kernel
theorem dX10_road_4 : decode cX10_road 4 = .ok (.ifCond .eq 15, 3) := by decide +kernel
theorem dX10_road_7 : decode cX10_road 7 = .ok (.iload_n 2, 1) := by decide +kernel
theorem dX10_road_8 : decode cX10_road 8 = .ok (.invokestatic 72, 3) := by decide +kernel
theorem dX10_road_11 : decode cX10_road 11 = .ok (.ifCond .eq 8, 3) := by decide +kernel
theorem dX10_road_14 : decode cX10_road 14 = .ok (.iload_n 1, 1) := by decide +kernel
theorem dX10_road_15 : decode cX10_road 15 = .ok (.iload_n 2, 1) := by decide +kernel
theorem dX10_road_16 : decode cX10_road 16 = .ok (.if_icmp .ne 6, 3) := by decide +kernel
theorem dX10_road_19 : decode cX10_road 19 = .ok (.bipush (-101), 2) := by decide +kernel
theorem dX10_road_21 : decode cX10_road 21 = .ok (.ireturn, 1) := by decide +kernel
theorem dX10_road_22 : decode cX10_road 22 = .ok (.iload_n 3, 1) := by decide +kernel
theorem dX10_road_23 : decode cX10_road 23 = .ok (.iconst 0, 1) := by decide +kernel
theorem dX10_road_24 : decode cX10_road 24 = .ok (.bipush 99, 2) := by decide +kernel
theorem dX10_road_26 : decode cX10_road 26 = .ok (.invokestatic 76, 3) := by decide +kernel
theorem dX10_road_29 : decode cX10_road 29 = .ok (.ifCond .ne 6, 3) := by decide +kernel
theorem dX10_road_32 : decode cX10_road 32 = .ok (.bipush (-102), 2) := by decide +kernel
theorem dX10_road_34 : decode cX10_road 34 = .ok (.ireturn, 1) := by decide +kernel
theorem dX10_road_35 : decode cX10_road 35 = .ok (.aload_n 0, 1) := by decide +kernel
theorem dX10_road_36 : decode cX10_road 36 = .ok (.getfield 26, 3) := by decide +kernel
theorem dX10_road_39 : decode cX10_road 39 = .ok (.iload_n 1, 1) := by decide +kernel
theorem dX10_road_40 : decode cX10_road 40 = .ok (.iload_n 2, 1) := by decide +kernel
theorem dX10_road_41 : decode cX10_road 41 = .ok (.iload_n 3, 1) := by decide +kernel
theorem dX10_road_42 : decode cX10_road 42 = .ok (.invokevirtual 80, 3) := by decide +kernel
theorem dX10_road_45 : decode cX10_road 45 = .ok (.ireturn, 1) := by decide +kernel
theorem dX10_town_0 : decode cX10_town 0 = .ok (.iload_n 1, 1) := by decide +kernel
theorem dX10_town_1 : decode cX10_town 1 = .ok (.invokestatic 84, 3) := by decide +kernel
theorem dX10_town_4 : decode cX10_town 4 = .ok (.ifCond .eq 10, 3) := by decide +kernel
theorem dX10_town_7 : decode cX10_town 7 = .ok (.iload_n 2, 1) := by decide +kernel
theorem dX10_town_8 : decode cX10_town 8 = .ok (.invokestatic 72, 3) := by decide +kernel
theorem dX10_town_11 : decode cX10_town 11 = .ok (.ifCond .ne 6, 3) := by decide +kernel
theorem dX10_town_14 : decode cX10_town 14 = .ok (.bipush (-101), 2) := by decide +kernel
theorem dX10_town_16 : decode cX10_town 16 = .ok (.ireturn, 1) := by decide +kernel
theorem dX10_town_17 : decode cX10_town 17 = .ok (.aload_n 0, 1) := by decide +kernel
theorem dX10_town_18 : decode cX10_town 18 = .ok (.getfield 58, 3) := by decide +kernel
theorem dX10_town_21 : decode cX10_town 21 = .ok (.iload_n 1, 1) := by decide +kernel
theorem dX10_town_22 : decode cX10_town 22 = .ok (.iaload, 1) := by decide +kernel
theorem dX10_town_23 : decode cX10_town 23 = .ok (.istore_n 3, 1) := by decide +kernel
theorem dX10_town_24 : decode cX10_town 24 = .ok (.aload_n 0, 1) := by decide +kernel
theorem dX10_town_25 : decode cX10_town 25 = .ok (.getfield 58, 3) := by decide +kernel
theorem dX10_town_28 : decode cX10_town 28 = .ok (.iload_n 1, 1) := by decide +kernel
theorem dX10_town_29 : decode cX10_town 29 = .ok (.iload_n 2, 1) := by decide +kernel
theorem dX10_town_30 : decode cX10_town 30 = .ok (.iastore, 1) := by decide +kernel
theorem dX10_town_31 : decode cX10_town 31 = .ok (.iload_n 3, 1) := by decide +kernel
theorem dX10_town_32 : decode cX10_town 32 = .ok (.ireturn, 1) := by decide +kernel
theorem dX10_letters_0 : decode cX10_letters 0 = .ok (.aload_n 0, 1) := by decide +kernel
theorem dX10_letters_1 : decode cX10_letters 1 = .ok (.getfield 10, 3) := by decide +kernel
theorem dX10_letters_4 : decode cX10_letters 4 = .ok (.lload_n 1, 1) := by decide +kernel
theorem dX10_letters_5 : decode cX10_letters 5 = .ok (.invokevirtual 87, 3) := by decide +kernel
theorem dX10_letters_8 : decode cX10_letters 8 = .ok (.ireturn, 1) := by decide +kernel
theorem dX10_blank_0 : decode cX10_blank 0 = .ok (.aload_n 0, 1) := by decide +kernel
theorem dX10_blank_1 : decode cX10_blank 1 = .ok (.getfield 10, 3) := by decide +kernel
theorem dX10_blank_4 : decode cX10_blank 4 = .ok (.invokevirtual 91, 3) := by decide +kernel
theorem dX10_blank_7 : decode cX10_blank 7 = .ok (.istore_n 1, 1) := by decide +kernel
theorem dX10_blank_8 : decode cX10_blank 8 = .ok (.aload_n 0, 1) := by decide +kernel
theorem dX10_blank_9 : decode cX10_blank 9 = .ok (.getfield 10, 3) := by decide +kernel
theorem dX10_blank_12 : decode cX10_blank 12 = .ok (.invokevirtual 95, 3) := by decide +kernel
theorem dX10_blank_15 : decode cX10_blank 15 = .ok (.iload_n 1, 1) := by decide +kernel
theorem dX10_blank_16 : decode cX10_blank 16 = .ok (.ireturn, 1) := by decide +kernel
theorem dX10_fault_0 : decode cX10_fault 0 = .ok (.aload_n 0, 1) := by decide +kernel
theorem dX10_fault_1 : decode cX10_fault 1 = .ok (.getfield 69, 3) := by decide +kernel
theorem dX10_fault_4 : decode cX10_fault 4 = .ok (.aload_n 0, 1) := by decide +kernel
theorem dX10_fault_5 : decode cX10_fault 5 = .ok (.getfield 10, 3) := by decide +kernel
theorem dX10_fault_8 : decode cX10_fault 8 = .ok (.invokevirtual 98, 3) := by decide +kernel
theorem dX10_fault_11 : decode cX10_fault 11 = .ok (.ireturn, 1) := by decide +kernel
theorem dX10_births_0 : decode cX10_births 0 = .ok (.aload_n 0, 1) := by decide +kernel
theorem dX10_births_1 : decode cX10_births 1 = .ok (.getfield 69, 3) := by decide +kernel
theorem dX10_births_4 : decode cX10_births 4 = .ok (.aload_n 0, 1) := by decide +kernel
theorem dX10_births_5 : decode cX10_births 5 = .ok (.getfield 10, 3) := by decide +kernel
theorem dX10_births_8 : decode cX10_births 8 = .ok (.invokevirtual 98, 3) := by decide +kernel
theorem dX10_births_11 : decode cX10_births 11 = .ok (.aload_n 0, 1) := by decide +kernel
theorem dX10_births_12 : decode cX10_births 12 = .ok (.getfield 10, 3) := by decide +kernel
theorem dX10_births_15 : decode cX10_births 15 = .ok (.invokevirtual 91, 3) := by decide +kernel
theorem dX10_births_18 : decode cX10_births 18 = .ok (.if_icmp .lt 13, 3) := by decide +kernel
theorem dX10_births_21 : decode cX10_births 21 = .ok (.aload_n 0, 1) := by decide +kernel
theorem dX10_births_22 : decode cX10_births 22 = .ok (.getfield 69, 3) := by decide +kernel
theorem dX10_births_25 : decode cX10_births 25 = .ok (.invokevirtual 102, 3) := by decide +kernel
theorem dX10_births_28 : decode cX10_births 28 = .ok (.ifCond .ne 6, 3) := by decide +kernel
theorem dX10_births_31 : decode cX10_births 31 = .ok (.bipush (-103), 2) := by decide +kernel
theorem dX10_births_33 : decode cX10_births 33 = .ok (.ireturn, 1) := by decide +kernel
theorem dX10_births_34 : decode cX10_births 34 = .ok (.aload_n 0, 1) := by decide +kernel
theorem dX10_births_35 : decode cX10_births 35 = .ok (.getfield 65, 3) := by decide +kernel
theorem dX10_births_38 : decode cX10_births 38 = .ok (.astore_n 1, 1) := by decide +kernel
theorem dX10_births_39 : decode cX10_births 39 = .ok (.aload_n 0, 1) := by decide +kernel
theorem dX10_births_40 : decode cX10_births 40 = .ok (.aload_n 0, 1) := by decide +kernel
theorem dX10_births_41 : decode cX10_births 41 = .ok (.getfield 69, 3) := by decide +kernel
theorem dX10_births_44 : decode cX10_births 44 = .ok (.putfield 65, 3) := by decide +kernel
theorem dX10_births_47 : decode cX10_births 47 = .ok (.aload_n 0, 1) := by decide +kernel
theorem dX10_births_48 : decode cX10_births 48 = .ok (.aload_n 1, 1) := by decide +kernel
theorem dX10_births_49 : decode cX10_births 49 = .ok (.putfield 69, 3) := by decide +kernel
theorem dX10_births_52 : decode cX10_births 52 = .ok (.aload_n 0, 1) := by decide +kernel
theorem dX10_births_53 : decode cX10_births 53 = .ok (.getfield 10, 3) := by decide +kernel
theorem dX10_births_56 : decode cX10_births 56 = .ok (.invokevirtual 95, 3) := by decide +kernel
theorem dX10_births_59 : decode cX10_births 59 = .ok (.aload_n 0, 1) := by decide +kernel
theorem dX10_births_60 : decode cX10_births 60 = .ok (.getfield 19, 3) := by decide +kernel
theorem dX10_births_63 : decode cX10_births 63 = .ok (.invokevirtual 106, 3) := by decide +kernel
theorem dX10_births_66 : decode cX10_births 66 = .ok (.aload_n 0, 1) := by decide +kernel
theorem dX10_births_67 : decode cX10_births 67 = .ok (.getfield 54, 3) := by decide +kernel
theorem dX10_births_70 : decode cX10_births 70 = .ok (.invokevirtual 107, 3) := by decide +kernel
theorem dX10_births_73 : decode cX10_births 73 = .ok (.aload_n 0, 1) := by decide +kernel
theorem dX10_births_74 : decode cX10_births 74 = .ok (.dup, 1) := by decide +kernel
theorem dX10_births_75 : decode cX10_births 75 = .ok (.getfield 110, 3) := by decide +kernel
theorem dX10_births_78 : decode cX10_births 78 = .ok (.iconst 1, 1) := by decide +kernel
theorem dX10_births_79 : decode cX10_births 79 = .ok (.iadd, 1) := by decide +kernel
theorem dX10_births_80 : decode cX10_births 80 = .ok (.putfield 110, 3) := by decide +kernel
theorem dX10_births_83 : decode cX10_births 83 = .ok (.aload_n 0, 1) := by decide +kernel
theorem dX10_births_84 : decode cX10_births 84 = .ok (.getfield 65, 3) := by decide +kernel
theorem dX10_births_87 : decode cX10_births 87 = .ok (.invokevirtual 114, 3) := by decide +kernel
theorem dX10_births_90 : decode cX10_births 90 = .ok (.ireturn, 1) := by decide +kernel
theorem dX10_birth_0 : decode cX10_birth 0 = .ok (.aload_n 0, 1) := by decide +kernel
theorem dX10_birth_1 : decode cX10_birth 1 = .ok (.getfield 65, 3) := by decide +kernel
theorem dX10_birth_4 : decode cX10_birth 4 = .ok (.iload_n 1, 1) := by decide +kernel
theorem dX10_birth_5 : decode cX10_birth 5 = .ok (.invokevirtual 115, 3) := by decide +kernel
theorem dX10_birth_8 : decode cX10_birth 8 = .ok (.astore_n 3, 1) := by decide +kernel
theorem dX10_birth_9 : decode cX10_birth 9 = .ok (.aload_n 3, 1) := by decide +kernel
theorem dX10_birth_10 : decode cX10_birth 10 = .ok (.ifnonnull 6, 3) := by decide +kernel
theorem dX10_birth_13 : decode cX10_birth 13 = .ok (.bipush (-101), 2) := by decide +kernel
theorem dX10_birth_15 : decode cX10_birth 15 = .ok (.ireturn, 1) := by decide +kernel
theorem dX10_birth_16 : decode cX10_birth 16 = .ok (.iload_n 2, 1) := by decide +kernel
theorem dX10_birth_17 : decode cX10_birth 17 = .ok (.iconst 0, 1) := by decide +kernel
theorem dX10_birth_18 : decode cX10_birth 18 = .ok (.bipush 6, 2) := by decide +kernel
theorem dX10_birth_20 : decode cX10_birth 20 = .ok (.invokestatic 76, 3) := by decide +kernel
theorem dX10_birth_23 : decode cX10_birth 23 = .ok (.ifCond .ne 6, 3) := by decide +kernel
theorem dX10_birth_26 : decode cX10_birth 26 = .ok (.bipush (-102), 2) := by decide +kernel
theorem dX10_birth_28 : decode cX10_birth 28 = .ok (.ireturn, 1) := by decide +kernel
theorem dX10_birth_29 : decode cX10_birth 29 = .ok (.aload_n 3, 1) := by decide +kernel
theorem dX10_birth_30 : decode cX10_birth 30 = .ok (.iload_n 2, 1) := by decide +kernel
theorem dX10_birth_31 : decode cX10_birth 31 = .ok (.invokevirtual 121, 3) := by decide +kernel
theorem dX10_birth_34 : decode cX10_birth 34 = .ok (.ireturn, 1) := by decide +kernel
theorem dX10_as_0 : decode cX10_as 0 = .ok (.aload_n 0, 1) := by decide +kernel
theorem dX10_as_1 : decode cX10_as 1 = .ok (.getfield 65, 3) := by decide +kernel
theorem dX10_as_4 : decode cX10_as 4 = .ok (.iload_n 1, 1) := by decide +kernel
theorem dX10_as_5 : decode cX10_as 5 = .ok (.invokevirtual 115, 3) := by decide +kernel
theorem dX10_as_8 : decode cX10_as 8 = .ok (.astore_n 3, 1) := by decide +kernel
theorem dX10_as_9 : decode cX10_as 9 = .ok (.aload_n 3, 1) := by decide +kernel
theorem dX10_as_10 : decode cX10_as 10 = .ok (.ifnonnull 6, 3) := by decide +kernel
theorem dX10_as_13 : decode cX10_as 13 = .ok (.bipush (-101), 2) := by decide +kernel
theorem dX10_as_15 : decode cX10_as 15 = .ok (.ireturn, 1) := by decide +kernel
theorem dX10_as_16 : decode cX10_as 16 = .ok (.iload_n 2, 1) := by decide +kernel
theorem dX10_as_17 : decode cX10_as 17 = .ok (.iconst 0, 1) := by decide +kernel
theorem dX10_as_18 : decode cX10_as 18 = .ok (.iconst 3, 1) := by decide +kernel
theorem dX10_as_19 : decode cX10_as 19 = .ok (.invokestatic 76, 3) := by decide +kernel
theorem dX10_as_22 : decode cX10_as 22 = .ok (.ifCond .ne 6, 3) := by decide +kernel
theorem dX10_as_25 : decode cX10_as 25 = .ok (.bipush (-102), 2) := by decide +kernel
theorem dX10_as_27 : decode cX10_as 27 = .ok (.ireturn, 1) := by decide +kernel
theorem dX10_as_28 : decode cX10_as 28 = .ok (.aload_n 3, 1) := by decide +kernel
theorem dX10_as_29 : decode cX10_as 29 = .ok (.iload_n 2, 1) := by decide +kernel
theorem dX10_as_30 : decode cX10_as 30 = .ok (.invokevirtual 125, 3) := by decide +kernel
theorem dX10_as_33 : decode cX10_as 33 = .ok (.ifCond .eq 7, 3) := by decide +kernel
theorem dX10_as_36 : decode cX10_as 36 = .ok (.iload_n 1, 1) := by decide +kernel
theorem dX10_as_37 : decode cX10_as 37 = .ok (.goto 4, 3) := by decide +kernel
theorem dX10_as_40 : decode cX10_as 40 = .ok (.iconst (-1), 1) := by decide +kernel
theorem dX10_as_41 : decode cX10_as 41 = .ok (.ireturn, 1) := by decide +kernel
theorem dX10_about_0 : decode cX10_about 0 = .ok (.iload_n 1, 1) := by decide +kernel
theorem dX10_about_1 : decode cX10_about 1 = .ok (.invokestatic 84, 3) := by decide +kernel
theorem dX10_about_4 : decode cX10_about 4 = .ok (.ifCond .ne 6, 3) := by decide +kernel
theorem dX10_about_7 : decode cX10_about 7 = .ok (.bipush (-101), 2) := by decide +kernel
theorem dX10_about_9 : decode cX10_about 9 = .ok (.ireturn, 1) := by decide +kernel
theorem dX10_about_10 : decode cX10_about 10 = .ok (.iload_n 2, 1) := by decide +kernel
theorem dX10_about_11 : decode cX10_about 11 = .ok (.tableswitch 50 0 2 #[25, 32, 41], 25) := by decide +kernel
theorem dX10_about_36 : decode cX10_about 36 = .ok (.aload_n 0, 1) := by decide +kernel
theorem dX10_about_37 : decode cX10_about 37 = .ok (.getfield 58, 3) := by decide +kernel
theorem dX10_about_40 : decode cX10_about 40 = .ok (.iload_n 1, 1) := by decide +kernel
theorem dX10_about_41 : decode cX10_about 41 = .ok (.iaload, 1) := by decide +kernel
theorem dX10_about_42 : decode cX10_about 42 = .ok (.ireturn, 1) := by decide +kernel
theorem dX10_about_43 : decode cX10_about 43 = .ok (.aload_n 0, 1) := by decide +kernel
theorem dX10_about_44 : decode cX10_about 44 = .ok (.getfield 65, 3) := by decide +kernel
theorem dX10_about_47 : decode cX10_about 47 = .ok (.iload_n 1, 1) := by decide +kernel
theorem dX10_about_48 : decode cX10_about 48 = .ok (.invokevirtual 128, 3) := by decide +kernel
theorem dX10_about_51 : decode cX10_about 51 = .ok (.ireturn, 1) := by decide +kernel
theorem dX10_about_52 : decode cX10_about 52 = .ok (.aload_n 0, 1) := by decide +kernel
theorem dX10_about_53 : decode cX10_about 53 = .ok (.getfield 19, 3) := by decide +kernel
theorem dX10_about_56 : decode cX10_about 56 = .ok (.iload_n 1, 1) := by decide +kernel
theorem dX10_about_57 : decode cX10_about 57 = .ok (.invokevirtual 131, 3) := by decide +kernel
theorem dX10_about_60 : decode cX10_about 60 = .ok (.ireturn, 1) := by decide +kernel
theorem dX10_about_61 : decode cX10_about 61 = .ok (.bipush (-102), 2) := by decide +kernel
theorem dX10_about_63 : decode cX10_about 63 = .ok (.ireturn, 1) := by decide +kernel
theorem dX10_touch_0 : decode cX10_touch 0 = .ok (.iload_n 1, 1) := by decide +kernel
theorem dX10_touch_1 : decode cX10_touch 1 = .ok (.invokestatic 84, 3) := by decide +kernel
theorem dX10_touch_4 : decode cX10_touch 4 = .ok (.ifCond .ne 6, 3) := by decide +kernel
theorem dX10_touch_7 : decode cX10_touch 7 = .ok (.bipush (-101), 2) := by decide +kernel
theorem dX10_touch_9 : decode cX10_touch 9 = .ok (.ireturn, 1) := by decide +kernel
theorem dX10_touch_10 : decode cX10_touch 10 = .ok (.iload_n 2, 1) := by decide +kernel
theorem dX10_touch_11 : decode cX10_touch 11 = .ok (.iconst 0, 1) := by decide +kernel
theorem dX10_touch_12 : decode cX10_touch 12 = .ok (.sipush 999, 3) := by decide +kernel
theorem dX10_touch_15 : decode cX10_touch 15 = .ok (.invokestatic 76, 3) := by decide +kernel
theorem dX10_touch_18 : decode cX10_touch 18 = .ok (.ifCond .ne 6, 3) := by decide +kernel
theorem dX10_touch_21 : decode cX10_touch 21 = .ok (.bipush (-102), 2) := by decide +kernel
theorem dX10_touch_23 : decode cX10_touch 23 = .ok (.ireturn, 1) := by decide +kernel
theorem dX10_touch_24 : decode cX10_touch 24 = .ok (.aload_n 0, 1) := by decide +kernel
theorem dX10_touch_25 : decode cX10_touch 25 = .ok (.getfield 19, 3) := by decide +kernel
theorem dX10_touch_28 : decode cX10_touch 28 = .ok (.iload_n 1, 1) := by decide +kernel
theorem dX10_touch_29 : decode cX10_touch 29 = .ok (.iload_n 2, 1) := by decide +kernel
theorem dX10_touch_30 : decode cX10_touch 30 = .ok (.invokevirtual 134, 3) := by decide +kernel
theorem dX10_touch_33 : decode cX10_touch 33 = .ok (.ireturn, 1) := by decide +kernel
theorem dX10_forget_0 : decode cX10_forget 0 = .ok (.aload_n 0, 1) := by decide +kernel
theorem dX10_forget_1 : decode cX10_forget 1 = .ok (.getfield 19, 3) := by decide +kernel
theorem dX10_forget_4 : decode cX10_forget 4 = .ok (.invokevirtual 138, 3) := by decide +kernel
theorem dX10_forget_7 : decode cX10_forget 7 = .ok (.istore_n 1, 1) := by decide +kernel
theorem dX10_forget_8 : decode cX10_forget 8 = .ok (.aload_n 0, 1) := by decide +kernel
theorem dX10_forget_9 : decode cX10_forget 9 = .ok (.getfield 19, 3) := by decide +kernel
theorem dX10_forget_12 : decode cX10_forget 12 = .ok (.invokevirtual 106, 3) := by decide +kernel
theorem dX10_forget_15 : decode cX10_forget 15 = .ok (.iload_n 1, 1) := by decide +kernel
theorem dX10_forget_16 : decode cX10_forget 16 = .ok (.ireturn, 1) := by decide +kernel
theorem dX10_felt_0 : decode cX10_felt 0 = .ok (.iload_n 1, 1) := by decide +kernel
theorem dX10_felt_1 : decode cX10_felt 1 = .ok (.invokestatic 84, 3) := by decide +kernel
theorem dX10_felt_4 : decode cX10_felt 4 = .ok (.ifCond .ne 6, 3) := by decide +kernel
theorem dX10_felt_7 : decode cX10_felt 7 = .ok (.bipush (-101), 2) := by decide +kernel
theorem dX10_felt_9 : decode cX10_felt 9 = .ok (.ireturn, 1) := by decide +kernel
theorem dX10_felt_10 : decode cX10_felt 10 = .ok (.iload_n 2, 1) := by decide +kernel
theorem dX10_felt_11 : decode cX10_felt 11 = .ok (.iload_n 3, 1) := by decide +kernel
theorem dX10_felt_12 : decode cX10_felt 12 = .ok (.invokestatic 139, 3) := by decide +kernel
theorem dX10_felt_15 : decode cX10_felt 15 = .ok (.ifCond .ne 6, 3) := by decide +kernel
theorem dX10_felt_18 : decode cX10_felt 18 = .ok (.bipush (-102), 2) := by decide +kernel
theorem dX10_felt_20 : decode cX10_felt 20 = .ok (.ireturn, 1) := by decide +kernel
theorem dX10_felt_21 : decode cX10_felt 21 = .ok (.aload_n 0, 1) := by decide +kernel
theorem dX10_felt_22 : decode cX10_felt 22 = .ok (.getfield 19, 3) := by decide +kernel
theorem dX10_felt_25 : decode cX10_felt 25 = .ok (.aload_n 0, 1) := by decide +kernel
theorem dX10_felt_26 : decode cX10_felt 26 = .ok (.getfield 65, 3) := by decide +kernel
theorem dX10_felt_29 : decode cX10_felt 29 = .ok (.iload_n 1, 1) := by decide +kernel
theorem dX10_felt_30 : decode cX10_felt 30 = .ok (.iload_n 2, 1) := by decide +kernel
theorem dX10_felt_31 : decode cX10_felt 31 = .ok (.iload_n 3, 1) := by decide +kernel
theorem dX10_felt_32 : decode cX10_felt 32 = .ok (.invokevirtual 143, 3) := by decide +kernel
theorem dX10_felt_35 : decode cX10_felt 35 = .ok (.ireturn, 1) := by decide +kernel
theorem dX10_surely_0 : decode cX10_surely 0 = .ok (.iload_n 1, 1) := by decide +kernel
theorem dX10_surely_1 : decode cX10_surely 1 = .ok (.invokestatic 84, 3) := by decide +kernel
theorem dX10_surely_4 : decode cX10_surely 4 = .ok (.ifCond .ne 7, 3) := by decide +kernel
theorem dX10_surely_7 : decode cX10_surely 7 = .ok (.ldc2_w 147, 3) := by decide +kernel
theorem dX10_surely_10 : decode cX10_surely 10 = .ok (.lreturn, 1) := by decide +kernel
theorem dX10_surely_11 : decode cX10_surely 11 = .ok (.iload_n 2, 1) := by decide +kernel
theorem dX10_surely_12 : decode cX10_surely 12 = .ok (.iload_n 3, 1) := by decide +kernel
theorem dX10_surely_13 : decode cX10_surely 13 = .ok (.invokestatic 139, 3) := by decide +kernel
theorem dX10_surely_16 : decode cX10_surely 16 = .ok (.ifCond .eq 11, 3) := by decide +kernel
theorem dX10_surely_19 : decode cX10_surely 19 = .ok (.iload 4, 2) := by decide +kernel
theorem dX10_surely_21 : decode cX10_surely 21 = .ok (.invokestatic 149, 3) := by decide +kernel
theorem dX10_surely_24 : decode cX10_surely 24 = .ok (.ifCond .ne 7, 3) := by decide +kernel
theorem dX10_surely_27 : decode cX10_surely 27 = .ok (.ldc2_w 152, 3) := by decide +kernel
theorem dX10_surely_30 : decode cX10_surely 30 = .ok (.lreturn, 1) := by decide +kernel
theorem dX10_surely_31 : decode cX10_surely 31 = .ok (.aload_n 0, 1) := by decide +kernel
theorem dX10_surely_32 : decode cX10_surely 32 = .ok (.getfield 19, 3) := by decide +kernel
theorem dX10_surely_35 : decode cX10_surely 35 = .ok (.aload_n 0, 1) := by decide +kernel
theorem dX10_surely_36 : decode cX10_surely 36 = .ok (.getfield 65, 3) := by decide +kernel
theorem dX10_surely_39 : decode cX10_surely 39 = .ok (.iload_n 1, 1) := by decide +kernel
theorem dX10_surely_40 : decode cX10_surely 40 = .ok (.iload_n 2, 1) := by decide +kernel
theorem dX10_surely_41 : decode cX10_surely 41 = .ok (.iload_n 3, 1) := by decide +kernel
theorem dX10_surely_42 : decode cX10_surely 42 = .ok (.invokevirtual 143, 3) := by decide +kernel
theorem dX10_surely_45 : decode cX10_surely 45 = .ok (.istore 5, 2) := by decide +kernel
theorem dX10_surely_47 : decode cX10_surely 47 = .ok (.ldc2_w 154, 3) := by decide +kernel
theorem dX10_surely_50 : decode cX10_surely 50 = .ok (.iload 5, 2) := by decide +kernel
theorem dX10_surely_52 : decode cX10_surely 52 = .ok (.invokestatic 156, 3) := by decide +kernel
theorem dX10_surely_55 : decode cX10_surely 55 = .ok (.lstore 6, 2) := by decide +kernel
theorem dX10_surely_57 : decode cX10_surely 57 = .ok (.bipush 10, 2) := by decide +kernel
theorem dX10_surely_59 : decode cX10_surely 59 = .ok (.aload_n 0, 1) := by decide +kernel
theorem dX10_surely_60 : decode cX10_surely 60 = .ok (.getfield 65, 3) := by decide +kernel
theorem dX10_surely_63 : decode cX10_surely 63 = .ok (.iload_n 1, 1) := by decide +kernel
theorem dX10_surely_64 : decode cX10_surely 64 = .ok (.invokevirtual 160, 3) := by decide +kernel
theorem dX10_surely_67 : decode cX10_surely 67 = .ok (.isub, 1) := by decide +kernel
theorem dX10_surely_68 : decode cX10_surely 68 = .ok (.i2l, 1) := by decide +kernel
theorem dX10_surely_69 : decode cX10_surely 69 = .ok (.iload 5, 2) := by decide +kernel
theorem dX10_surely_71 : decode cX10_surely 71 = .ok (.invokestatic 156, 3) := by decide +kernel
theorem dX10_surely_74 : decode cX10_surely 74 = .ok (.lstore 8, 2) := by decide +kernel
theorem dX10_surely_76 : decode cX10_surely 76 = .ok (.lload 6, 2) := by decide +kernel
theorem dX10_surely_78 : decode cX10_surely 78 = .ok (.lload 8, 2) := by decide +kernel
theorem dX10_surely_80 : decode cX10_surely 80 = .ok (.lsub, 1) := by decide +kernel
theorem dX10_surely_81 : decode cX10_surely 81 = .ok (.lload 6, 2) := by decide +kernel
theorem dX10_surely_83 : decode cX10_surely 83 = .ok (.iload 4, 2) := by decide +kernel
theorem dX10_surely_85 : decode cX10_surely 85 = .ok (.invokestatic 163, 3) := by decide +kernel
theorem dX10_surely_88 : decode cX10_surely 88 = .ok (.lreturn, 1) := by decide +kernel
theorem dX10_over_0 : decode cX10_over 0 = .ok (.aload_n 0, 1) := by decide +kernel
theorem dX10_over_1 : decode cX10_over 1 = .ok (.getfield 19, 3) := by decide +kernel
theorem dX10_over_4 : decode cX10_over 4 = .ok (.aload_n 0, 1) := by decide +kernel
theorem dX10_over_5 : decode cX10_over 5 = .ok (.getfield 65, 3) := by decide +kernel
theorem dX10_over_8 : decode cX10_over 8 = .ok (.invokevirtual 167, 3) := by decide +kernel
theorem dX10_over_11 : decode cX10_over 11 = .ok (.ireturn, 1) := by decide +kernel
theorem dX10_soonest_0 : decode cX10_soonest 0 = .ok (.iload_n 1, 1) := by decide +kernel
theorem dX10_soonest_1 : decode cX10_soonest 1 = .ok (.invokestatic 72, 3) := by decide +kernel
theorem dX10_soonest_4 : decode cX10_soonest 4 = .ok (.ifCond .eq 10, 3) := by decide +kernel
theorem dX10_soonest_7 : decode cX10_soonest 7 = .ok (.iload_n 2, 1) := by decide +kernel
theorem dX10_soonest_8 : decode cX10_soonest 8 = .ok (.invokestatic 72, 3) := by decide +kernel
theorem dX10_soonest_11 : decode cX10_soonest 11 = .ok (.ifCond .ne 6, 3) := by decide +kernel
theorem dX10_soonest_14 : decode cX10_soonest 14 = .ok (.bipush (-101), 2) := by decide +kernel
theorem dX10_soonest_16 : decode cX10_soonest 16 = .ok (.ireturn, 1) := by decide +kernel
theorem dX10_soonest_17 : decode cX10_soonest 17 = .ok (.aload_n 0, 1) := by decide +kernel
theorem dX10_soonest_18 : decode cX10_soonest 18 = .ok (.getfield 26, 3) := by decide +kernel
theorem dX10_soonest_21 : decode cX10_soonest 21 = .ok (.aload_n 0, 1) := by decide +kernel
theorem dX10_soonest_22 : decode cX10_soonest 22 = .ok (.getfield 65, 3) := by decide +kernel
theorem dX10_soonest_25 : decode cX10_soonest 25 = .ok (.aload_n 0, 1) := by decide +kernel
theorem dX10_soonest_26 : decode cX10_soonest 26 = .ok (.getfield 58, 3) := by decide +kernel
theorem dX10_soonest_29 : decode cX10_soonest 29 = .ok (.iconst 0, 1) := by decide +kernel
theorem dX10_soonest_30 : decode cX10_soonest 30 = .ok (.invokevirtual 171, 3) := by decide +kernel
theorem dX10_soonest_33 : decode cX10_soonest 33 = .ok (.aload_n 0, 1) := by decide +kernel
theorem dX10_soonest_34 : decode cX10_soonest 34 = .ok (.getfield 26, 3) := by decide +kernel
theorem dX10_soonest_37 : decode cX10_soonest 37 = .ok (.iload_n 1, 1) := by decide +kernel
theorem dX10_soonest_38 : decode cX10_soonest 38 = .ok (.iload_n 2, 1) := by decide +kernel
theorem dX10_soonest_39 : decode cX10_soonest 39 = .ok (.invokevirtual 175, 3) := by decide +kernel
theorem dX10_soonest_42 : decode cX10_soonest 42 = .ok (.ireturn, 1) := by decide +kernel
theorem dX10_unseen_0 : decode cX10_unseen 0 = .ok (.iload_n 1, 1) := by decide +kernel
theorem dX10_unseen_1 : decode cX10_unseen 1 = .ok (.invokestatic 72, 3) := by decide +kernel
theorem dX10_unseen_4 : decode cX10_unseen 4 = .ok (.ifCond .eq 10, 3) := by decide +kernel
theorem dX10_unseen_7 : decode cX10_unseen 7 = .ok (.iload_n 2, 1) := by decide +kernel
theorem dX10_unseen_8 : decode cX10_unseen 8 = .ok (.invokestatic 72, 3) := by decide +kernel
theorem dX10_unseen_11 : decode cX10_unseen 11 = .ok (.ifCond .ne 6, 3) := by decide +kernel
theorem dX10_unseen_14 : decode cX10_unseen 14 = .ok (.bipush (-101), 2) := by decide +kernel
theorem dX10_unseen_16 : decode cX10_unseen 16 = .ok (.ireturn, 1) := by decide +kernel
theorem dX10_unseen_17 : decode cX10_unseen 17 = .ok (.iload_n 3, 1) := by decide +kernel
theorem dX10_unseen_18 : decode cX10_unseen 18 = .ok (.bipush 10, 2) := by decide +kernel
theorem dX10_unseen_20 : decode cX10_unseen 20 = .ok (.invokestatic 178, 3) := by decide +kernel
theorem dX10_unseen_23 : decode cX10_unseen 23 = .ok (.ifCond .ne 6, 3) := by decide +kernel
theorem dX10_unseen_26 : decode cX10_unseen 26 = .ok (.bipush (-102), 2) := by decide +kernel
theorem dX10_unseen_28 : decode cX10_unseen 28 = .ok (.ireturn, 1) := by decide +kernel
theorem dX10_unseen_29 : decode cX10_unseen 29 = .ok (.aload_n 0, 1) := by decide +kernel
theorem dX10_unseen_30 : decode cX10_unseen 30 = .ok (.getfield 26, 3) := by decide +kernel
theorem dX10_unseen_33 : decode cX10_unseen 33 = .ok (.aload_n 0, 1) := by decide +kernel
theorem dX10_unseen_34 : decode cX10_unseen 34 = .ok (.getfield 65, 3) := by decide +kernel
theorem dX10_unseen_37 : decode cX10_unseen 37 = .ok (.aload_n 0, 1) := by decide +kernel
theorem dX10_unseen_38 : decode cX10_unseen 38 = .ok (.getfield 58, 3) := by decide +kernel
theorem dX10_unseen_41 : decode cX10_unseen 41 = .ok (.iload_n 3, 1) := by decide +kernel
theorem dX10_unseen_42 : decode cX10_unseen 42 = .ok (.invokevirtual 171, 3) := by decide +kernel
theorem dX10_unseen_45 : decode cX10_unseen 45 = .ok (.aload_n 0, 1) := by decide +kernel
theorem dX10_unseen_46 : decode cX10_unseen 46 = .ok (.getfield 26, 3) := by decide +kernel
theorem dX10_unseen_49 : decode cX10_unseen 49 = .ok (.iload_n 1, 1) := by decide +kernel
theorem dX10_unseen_50 : decode cX10_unseen 50 = .ok (.iload_n 2, 1) := by decide +kernel
theorem dX10_unseen_51 : decode cX10_unseen 51 = .ok (.invokevirtual 175, 3) := by decide +kernel
theorem dX10_unseen_54 : decode cX10_unseen 54 = .ok (.ireturn, 1) := by decide +kernel
theorem dX10_kept_0 : decode cX10_kept 0 = .ok (.iload_n 1, 1) := by decide +kernel
theorem dX10_kept_1 : decode cX10_kept 1 = .ok (.iconst 0, 1) := by decide +kernel
theorem dX10_kept_2 : decode cX10_kept 2 = .ok (.sipush 999, 3) := by decide +kernel
theorem dX10_kept_5 : decode cX10_kept 5 = .ok (.invokestatic 76, 3) := by decide +kernel
theorem dX10_kept_8 : decode cX10_kept 8 = .ok (.ifCond .eq 12, 3) := by decide +kernel
theorem dX10_kept_11 : decode cX10_kept 11 = .ok (.iload_n 2, 1) := by decide +kernel
theorem dX10_kept_12 : decode cX10_kept 12 = .ok (.iconst 0, 1) := by decide +kernel
theorem dX10_kept_13 : decode cX10_kept 13 = .ok (.iconst 4, 1) := by decide +kernel
theorem dX10_kept_14 : decode cX10_kept 14 = .ok (.invokestatic 76, 3) := by decide +kernel
theorem dX10_kept_17 : decode cX10_kept 17 = .ok (.ifCond .ne 6, 3) := by decide +kernel
theorem dX10_kept_20 : decode cX10_kept 20 = .ok (.bipush (-102), 2) := by decide +kernel
theorem dX10_kept_22 : decode cX10_kept 22 = .ok (.ireturn, 1) := by decide +kernel
theorem dX10_kept_23 : decode cX10_kept 23 = .ok (.aload_n 0, 1) := by decide +kernel
theorem dX10_kept_24 : decode cX10_kept 24 = .ok (.getfield 181, 3) := by decide +kernel
theorem dX10_kept_27 : decode cX10_kept 27 = .ok (.bipush 20, 2) := by decide +kernel
theorem dX10_kept_29 : decode cX10_kept 29 = .ok (.if_icmp .lt 6, 3) := by decide +kernel
theorem dX10_kept_32 : decode cX10_kept 32 = .ok (.bipush (-103), 2) := by decide +kernel
theorem dX10_kept_34 : decode cX10_kept 34 = .ok (.ireturn, 1) := by decide +kernel
theorem dX10_kept_35 : decode cX10_kept 35 = .ok (.aload_n 0, 1) := by decide +kernel
theorem dX10_kept_36 : decode cX10_kept 36 = .ok (.dup, 1) := by decide +kernel
theorem dX10_kept_37 : decode cX10_kept 37 = .ok (.getfield 181, 3) := by decide +kernel
theorem dX10_kept_40 : decode cX10_kept 40 = .ok (.iconst 1, 1) := by decide +kernel
theorem dX10_kept_41 : decode cX10_kept 41 = .ok (.iadd, 1) := by decide +kernel
theorem dX10_kept_42 : decode cX10_kept 42 = .ok (.putfield 181, 3) := by decide +kernel
theorem dX10_kept_45 : decode cX10_kept 45 = .ok (.aload_n 0, 1) := by decide +kernel
theorem dX10_kept_46 : decode cX10_kept 46 = .ok (.getfield 26, 3) := by decide +kernel
theorem dX10_kept_49 : decode cX10_kept 49 = .ok (.aload_n 0, 1) := by decide +kernel
theorem dX10_kept_50 : decode cX10_kept 50 = .ok (.getfield 65, 3) := by decide +kernel
theorem dX10_kept_53 : decode cX10_kept 53 = .ok (.aload_n 0, 1) := by decide +kernel
theorem dX10_kept_54 : decode cX10_kept 54 = .ok (.getfield 58, 3) := by decide +kernel
theorem dX10_kept_57 : decode cX10_kept 57 = .ok (.iconst 0, 1) := by decide +kernel
theorem dX10_kept_58 : decode cX10_kept 58 = .ok (.invokevirtual 171, 3) := by decide +kernel
theorem dX10_kept_61 : decode cX10_kept 61 = .ok (.aload_n 0, 1) := by decide +kernel
theorem dX10_kept_62 : decode cX10_kept 62 = .ok (.getfield 26, 3) := by decide +kernel
theorem dX10_kept_65 : decode cX10_kept 65 = .ok (.iload_n 1, 1) := by decide +kernel
theorem dX10_kept_66 : decode cX10_kept 66 = .ok (.invokevirtual 184, 3) := by decide +kernel
theorem dX10_kept_69 : decode cX10_kept 69 = .ok (.istore_n 3, 1) := by decide +kernel
theorem dX10_kept_70 : decode cX10_kept 70 = .ok (.iload_n 2, 1) := by decide +kernel
theorem dX10_kept_71 : decode cX10_kept 71 = .ok (.ifCond .ne 7, 3) := by decide +kernel
theorem dX10_kept_74 : decode cX10_kept 74 = .ok (.iload_n 3, 1) := by decide +kernel
theorem dX10_kept_75 : decode cX10_kept 75 = .ok (.goto 13, 3) := by decide +kernel
theorem dX10_kept_78 : decode cX10_kept 78 = .ok (.aload_n 0, 1) := by decide +kernel
theorem dX10_kept_79 : decode cX10_kept 79 = .ok (.getfield 26, 3) := by decide +kernel
theorem dX10_kept_82 : decode cX10_kept 82 = .ok (.iload_n 2, 1) := by decide +kernel
theorem dX10_kept_83 : decode cX10_kept 83 = .ok (.iconst 1, 1) := by decide +kernel
theorem dX10_kept_84 : decode cX10_kept 84 = .ok (.isub, 1) := by decide +kernel
theorem dX10_kept_85 : decode cX10_kept 85 = .ok (.invokevirtual 187, 3) := by decide +kernel
theorem dX10_kept_88 : decode cX10_kept 88 = .ok (.ireturn, 1) := by decide +kernel
theorem dX10_words_0 : decode cX10_words 0 = .ok (.iload_n 1, 1) := by decide +kernel
theorem dX10_words_1 : decode cX10_words 1 = .ok (.iconst 1, 1) := by decide +kernel
theorem dX10_words_2 : decode cX10_words 2 = .ok (.bipush 8, 2) := by decide +kernel
theorem dX10_words_4 : decode cX10_words 4 = .ok (.invokestatic 76, 3) := by decide +kernel
theorem dX10_words_7 : decode cX10_words 7 = .ok (.ifCond .eq 11, 3) := by decide +kernel
theorem dX10_words_10 : decode cX10_words 10 = .ok (.iload_n 2, 1) := by decide +kernel
theorem dX10_words_11 : decode cX10_words 11 = .ok (.iload_n 3, 1) := by decide +kernel
theorem dX10_words_12 : decode cX10_words 12 = .ok (.invokestatic 190, 3) := by decide +kernel
theorem dX10_words_15 : decode cX10_words 15 = .ok (.ifCond .ne 6, 3) := by decide +kernel
theorem dX10_words_18 : decode cX10_words 18 = .ok (.bipush (-102), 2) := by decide +kernel
theorem dX10_words_20 : decode cX10_words 20 = .ok (.ireturn, 1) := by decide +kernel
theorem dX10_words_21 : decode cX10_words 21 = .ok (.iload_n 1, 1) := by decide +kernel
theorem dX10_words_22 : decode cX10_words 22 = .ok (.iload_n 2, 1) := by decide +kernel
theorem dX10_words_23 : decode cX10_words 23 = .ok (.iload_n 3, 1) := by decide +kernel
theorem dX10_words_24 : decode cX10_words 24 = .ok (.invokestatic 193, 3) := by decide +kernel
theorem dX10_words_27 : decode cX10_words 27 = .ok (.ireturn, 1) := by decide +kernel
theorem dX10_least_0 : decode cX10_least 0 = .ok (.iload_n 1, 1) := by decide +kernel
theorem dX10_least_1 : decode cX10_least 1 = .ok (.iconst 1, 1) := by decide +kernel
theorem dX10_least_2 : decode cX10_least 2 = .ok (.ldc 196, 2) := by decide +kernel
theorem dX10_least_4 : decode cX10_least 4 = .ok (.invokestatic 76, 3) := by decide +kernel
theorem dX10_least_7 : decode cX10_least 7 = .ok (.ifCond .eq 11, 3) := by decide +kernel
theorem dX10_least_10 : decode cX10_least 10 = .ok (.iload_n 2, 1) := by decide +kernel
theorem dX10_least_11 : decode cX10_least 11 = .ok (.iload_n 3, 1) := by decide +kernel
theorem dX10_least_12 : decode cX10_least 12 = .ok (.invokestatic 190, 3) := by decide +kernel
theorem dX10_least_15 : decode cX10_least 15 = .ok (.ifCond .ne 6, 3) := by decide +kernel
theorem dX10_least_18 : decode cX10_least 18 = .ok (.bipush (-102), 2) := by decide +kernel
theorem dX10_least_20 : decode cX10_least 20 = .ok (.ireturn, 1) := by decide +kernel
theorem dX10_least_21 : decode cX10_least 21 = .ok (.iconst 1, 1) := by decide +kernel
theorem dX10_least_22 : decode cX10_least 22 = .ok (.istore 4, 2) := by decide +kernel
theorem dX10_least_24 : decode cX10_least 24 = .ok (.iload 4, 2) := by decide +kernel
theorem dX10_least_26 : decode cX10_least 26 = .ok (.bipush 8, 2) := by decide +kernel
theorem dX10_least_28 : decode cX10_least 28 = .ok (.if_icmp .gt 23, 3) := by decide +kernel
theorem dX10_least_31 : decode cX10_least 31 = .ok (.iload 4, 2) := by decide +kernel
theorem dX10_least_33 : decode cX10_least 33 = .ok (.iload_n 2, 1) := by decide +kernel
theorem dX10_least_34 : decode cX10_least 34 = .ok (.iload_n 3, 1) := by decide +kernel
theorem dX10_least_35 : decode cX10_least 35 = .ok (.invokestatic 193, 3) := by decide +kernel
theorem dX10_least_38 : decode cX10_least 38 = .ok (.iload_n 1, 1) := by decide +kernel
theorem dX10_least_39 : decode cX10_least 39 = .ok (.if_icmp .lt 6, 3) := by decide +kernel
theorem dX10_least_42 : decode cX10_least 42 = .ok (.iload 4, 2) := by decide +kernel
theorem dX10_least_44 : decode cX10_least 44 = .ok (.ireturn, 1) := by decide +kernel
theorem dX10_least_45 : decode cX10_least 45 = .ok (.iinc 4 1, 3) := by decide +kernel
theorem dX10_least_48 : decode cX10_least 48 = .ok (.goto (-24), 3) := by decide +kernel
theorem dX10_least_51 : decode cX10_least 51 = .ok (.iconst (-1), 1) := by decide +kernel
theorem dX10_least_52 : decode cX10_least 52 = .ok (.ireturn, 1) := by decide +kernel
theorem dX10_missed_0 : decode cX10_missed 0 = .ok (.iload_n 1, 1) := by decide +kernel
theorem dX10_missed_1 : decode cX10_missed 1 = .ok (.iconst 1, 1) := by decide +kernel
theorem dX10_missed_2 : decode cX10_missed 2 = .ok (.iconst 4, 1) := by decide +kernel
theorem dX10_missed_3 : decode cX10_missed 3 = .ok (.invokestatic 76, 3) := by decide +kernel
theorem dX10_missed_6 : decode cX10_missed 6 = .ok (.ifCond .eq 21, 3) := by decide +kernel
theorem dX10_missed_9 : decode cX10_missed 9 = .ok (.iload_n 2, 1) := by decide +kernel
theorem dX10_missed_10 : decode cX10_missed 10 = .ok (.iconst 0, 1) := by decide +kernel
theorem dX10_missed_11 : decode cX10_missed 11 = .ok (.iconst 4, 1) := by decide +kernel
theorem dX10_missed_12 : decode cX10_missed 12 = .ok (.invokestatic 76, 3) := by decide +kernel
theorem dX10_missed_15 : decode cX10_missed 15 = .ok (.ifCond .eq 12, 3) := by decide +kernel
theorem dX10_missed_18 : decode cX10_missed 18 = .ok (.iload_n 3, 1) := by decide +kernel
theorem dX10_missed_19 : decode cX10_missed 19 = .ok (.iconst 0, 1) := by decide +kernel
theorem dX10_missed_20 : decode cX10_missed 20 = .ok (.iconst 1, 1) := by decide +kernel
theorem dX10_missed_21 : decode cX10_missed 21 = .ok (.invokestatic 76, 3) := by decide +kernel
theorem dX10_missed_24 : decode cX10_missed 24 = .ok (.ifCond .ne 6, 3) := by decide +kernel
theorem dX10_missed_27 : decode cX10_missed 27 = .ok (.bipush (-102), 2) := by decide +kernel
theorem dX10_missed_29 : decode cX10_missed 29 = .ok (.ireturn, 1) := by decide +kernel
theorem dX10_missed_30 : decode cX10_missed 30 = .ok (.aload_n 0, 1) := by decide +kernel
theorem dX10_missed_31 : decode cX10_missed 31 = .ok (.getfield 47, 3) := by decide +kernel
theorem dX10_missed_34 : decode cX10_missed 34 = .ok (.iload_n 1, 1) := by decide +kernel
theorem dX10_missed_35 : decode cX10_missed 35 = .ok (.iload_n 2, 1) := by decide +kernel
theorem dX10_missed_36 : decode cX10_missed 36 = .ok (.invokevirtual 197, 3) := by decide +kernel
theorem dX10_missed_39 : decode cX10_missed 39 = .ok (.iload_n 3, 1) := by decide +kernel
theorem dX10_missed_40 : decode cX10_missed 40 = .ok (.ifCond .ne 13, 3) := by decide +kernel
theorem dX10_missed_43 : decode cX10_missed 43 = .ok (.aload_n 0, 1) := by decide +kernel
theorem dX10_missed_44 : decode cX10_missed 44 = .ok (.getfield 47, 3) := by decide +kernel
theorem dX10_missed_47 : decode cX10_missed 47 = .ok (.invokevirtual 201, 3) := by decide +kernel
theorem dX10_missed_50 : decode cX10_missed 50 = .ok (.goto 10, 3) := by decide +kernel
theorem dX10_missed_53 : decode cX10_missed 53 = .ok (.aload_n 0, 1) := by decide +kernel
theorem dX10_missed_54 : decode cX10_missed 54 = .ok (.getfield 47, 3) := by decide +kernel
theorem dX10_missed_57 : decode cX10_missed 57 = .ok (.invokevirtual 204, 3) := by decide +kernel
theorem dX10_missed_60 : decode cX10_missed 60 = .ok (.ireturn, 1) := by decide +kernel
theorem dX10_book_0 : decode cX10_book 0 = .ok (.iload_n 1, 1) := by decide +kernel
theorem dX10_book_1 : decode cX10_book 1 = .ok (.bipush 8, 2) := by decide +kernel
theorem dX10_book_3 : decode cX10_book 3 = .ok (.invokestatic 178, 3) := by decide +kernel
theorem dX10_book_6 : decode cX10_book 6 = .ok (.ifCond .ne 6, 3) := by decide +kernel
theorem dX10_book_9 : decode cX10_book 9 = .ok (.bipush (-102), 2) := by decide +kernel
theorem dX10_book_11 : decode cX10_book 11 = .ok (.ireturn, 1) := by decide +kernel
theorem dX10_book_12 : decode cX10_book 12 = .ok (.aload_n 0, 1) := by decide +kernel
theorem dX10_book_13 : decode cX10_book 13 = .ok (.getfield 33, 3) := by decide +kernel
theorem dX10_book_16 : decode cX10_book 16 = .ok (.iload_n 1, 1) := by decide +kernel
theorem dX10_book_17 : decode cX10_book 17 = .ok (.invokevirtual 207, 3) := by decide +kernel
theorem dX10_book_20 : decode cX10_book 20 = .ok (.ireturn, 1) := by decide +kernel
theorem dX10_read_0 : decode cX10_read 0 = .ok (.iload_n 1, 1) := by decide +kernel
theorem dX10_read_1 : decode cX10_read 1 = .ok (.iconst 0, 1) := by decide +kernel
theorem dX10_read_2 : decode cX10_read 2 = .ok (.aload_n 0, 1) := by decide +kernel
theorem dX10_read_3 : decode cX10_read 3 = .ok (.getfield 33, 3) := by decide +kernel
theorem dX10_read_6 : decode cX10_read 6 = .ok (.invokevirtual 209, 3) := by decide +kernel
theorem dX10_read_9 : decode cX10_read 9 = .ok (.iconst 1, 1) := by decide +kernel
theorem dX10_read_10 : decode cX10_read 10 = .ok (.isub, 1) := by decide +kernel
theorem dX10_read_11 : decode cX10_read 11 = .ok (.invokestatic 76, 3) := by decide +kernel
theorem dX10_read_14 : decode cX10_read 14 = .ok (.ifCond .ne 7, 3) := by decide +kernel
theorem dX10_read_17 : decode cX10_read 17 = .ok (.ldc2_w 147, 3) := by decide +kernel
theorem dX10_read_20 : decode cX10_read 20 = .ok (.lreturn, 1) := by decide +kernel
theorem dX10_read_21 : decode cX10_read 21 = .ok (.iload_n 2, 1) := by decide +kernel
theorem dX10_read_22 : decode cX10_read 22 = .ok (.bipush 8, 2) := by decide +kernel
theorem dX10_read_24 : decode cX10_read 24 = .ok (.invokestatic 178, 3) := by decide +kernel
theorem dX10_read_27 : decode cX10_read 27 = .ok (.ifCond .eq 18, 3) := by decide +kernel
theorem dX10_read_30 : decode cX10_read 30 = .ok (.iload_n 3, 1) := by decide +kernel
theorem dX10_read_31 : decode cX10_read 31 = .ok (.invokestatic 210, 3) := by decide +kernel
theorem dX10_read_34 : decode cX10_read 34 = .ok (.ifCond .eq 11, 3) := by decide +kernel
theorem dX10_read_37 : decode cX10_read 37 = .ok (.iload 4, 2) := by decide +kernel
theorem dX10_read_39 : decode cX10_read 39 = .ok (.invokestatic 149, 3) := by decide +kernel
theorem dX10_read_42 : decode cX10_read 42 = .ok (.ifCond .ne 7, 3) := by decide +kernel
theorem dX10_read_45 : decode cX10_read 45 = .ok (.ldc2_w 152, 3) := by decide +kernel
theorem dX10_read_48 : decode cX10_read 48 = .ok (.lreturn, 1) := by decide +kernel
theorem dX10_read_49 : decode cX10_read 49 = .ok (.aload_n 0, 1) := by decide +kernel
theorem dX10_read_50 : decode cX10_read 50 = .ok (.getfield 33, 3) := by decide +kernel
theorem dX10_read_53 : decode cX10_read 53 = .ok (.iload_n 2, 1) := by decide +kernel
theorem dX10_read_54 : decode cX10_read 54 = .ok (.iload_n 3, 1) := by decide +kernel
theorem dX10_read_55 : decode cX10_read 55 = .ok (.invokevirtual 213, 3) := by decide +kernel
theorem dX10_read_58 : decode cX10_read 58 = .ok (.lstore 5, 2) := by decide +kernel
theorem dX10_read_60 : decode cX10_read 60 = .ok (.lload 5, 2) := by decide +kernel
theorem dX10_read_62 : decode cX10_read 62 = .ok (.lconst 0, 1) := by decide +kernel
theorem dX10_read_63 : decode cX10_read 63 = .ok (.lcmp, 1) := by decide +kernel
theorem dX10_read_64 : decode cX10_read 64 = .ok (.ifCond .ne 7, 3) := by decide +kernel
theorem dX10_read_67 : decode cX10_read 67 = .ok (.ldc2_w 217, 3) := by decide +kernel
theorem dX10_read_70 : decode cX10_read 70 = .ok (.lreturn, 1) := by decide +kernel
theorem dX10_read_71 : decode cX10_read 71 = .ok (.aload_n 0, 1) := by decide +kernel
theorem dX10_read_72 : decode cX10_read 72 = .ok (.getfield 33, 3) := by decide +kernel
theorem dX10_read_75 : decode cX10_read 75 = .ok (.iload_n 1, 1) := by decide +kernel
theorem dX10_read_76 : decode cX10_read 76 = .ok (.iload_n 2, 1) := by decide +kernel
theorem dX10_read_77 : decode cX10_read 77 = .ok (.iload_n 3, 1) := by decide +kernel
theorem dX10_read_78 : decode cX10_read 78 = .ok (.invokevirtual 219, 3) := by decide +kernel
theorem dX10_read_81 : decode cX10_read 81 = .ok (.lload 5, 2) := by decide +kernel
theorem dX10_read_83 : decode cX10_read 83 = .ok (.iload 4, 2) := by decide +kernel
theorem dX10_read_85 : decode cX10_read 85 = .ok (.invokestatic 163, 3) := by decide +kernel
theorem dX10_read_88 : decode cX10_read 88 = .ok (.lreturn, 1) := by decide +kernel
theorem dX10_crowd_0 : decode cX10_crowd 0 = .ok (.iload_n 1, 1) := by decide +kernel
theorem dX10_crowd_1 : decode cX10_crowd 1 = .ok (.iconst 2, 1) := by decide +kernel
theorem dX10_crowd_2 : decode cX10_crowd 2 = .ok (.if_icmp .eq 23, 3) := by decide +kernel
theorem dX10_crowd_5 : decode cX10_crowd 5 = .ok (.iload_n 1, 1) := by decide +kernel
theorem dX10_crowd_6 : decode cX10_crowd 6 = .ok (.iconst 4, 1) := by decide +kernel
theorem dX10_crowd_7 : decode cX10_crowd 7 = .ok (.if_icmp .eq 18, 3) := by decide +kernel
theorem dX10_crowd_10 : decode cX10_crowd 10 = .ok (.iload_n 1, 1) := by decide +kernel
theorem dX10_crowd_11 : decode cX10_crowd 11 = .ok (.bipush 6, 2) := by decide +kernel
theorem dX10_crowd_13 : decode cX10_crowd 13 = .ok (.if_icmp .eq 12, 3) := by decide +kernel
theorem dX10_crowd_16 : decode cX10_crowd 16 = .ok (.iload_n 1, 1) := by decide +kernel
theorem dX10_crowd_17 : decode cX10_crowd 17 = .ok (.bipush 8, 2) := by decide +kernel
theorem dX10_crowd_19 : decode cX10_crowd 19 = .ok (.if_icmp .eq 6, 3) := by decide +kernel
theorem dX10_crowd_22 : decode cX10_crowd 22 = .ok (.bipush (-102), 2) := by decide +kernel
theorem dX10_crowd_24 : decode cX10_crowd 24 = .ok (.ireturn, 1) := by decide +kernel
theorem dX10_crowd_25 : decode cX10_crowd 25 = .ok (.aload_n 0, 1) := by decide +kernel
theorem dX10_crowd_26 : decode cX10_crowd 26 = .ok (.getfield 40, 3) := by decide +kernel
theorem dX10_crowd_29 : decode cX10_crowd 29 = .ok (.invokevirtual 223, 3) := by decide +kernel
theorem dX10_crowd_32 : decode cX10_crowd 32 = .ok (.istore_n 2, 1) := by decide +kernel
theorem dX10_crowd_33 : decode cX10_crowd 33 = .ok (.aload_n 0, 1) := by decide +kernel
theorem dX10_crowd_34 : decode cX10_crowd 34 = .ok (.getfield 40, 3) := by decide +kernel
theorem dX10_crowd_37 : decode cX10_crowd 37 = .ok (.iload_n 1, 1) := by decide +kernel
theorem dX10_crowd_38 : decode cX10_crowd 38 = .ok (.invokevirtual 224, 3) := by decide +kernel
theorem dX10_crowd_41 : decode cX10_crowd 41 = .ok (.aload_n 0, 1) := by decide +kernel
theorem dX10_crowd_42 : decode cX10_crowd 42 = .ok (.getfield 54, 3) := by decide +kernel
theorem dX10_crowd_45 : decode cX10_crowd 45 = .ok (.invokevirtual 107, 3) := by decide +kernel
theorem dX10_crowd_48 : decode cX10_crowd 48 = .ok (.iload_n 2, 1) := by decide +kernel
theorem dX10_crowd_49 : decode cX10_crowd 49 = .ok (.ireturn, 1) := by decide +kernel
theorem dX10_wince_0 : decode cX10_wince 0 = .ok (.iload_n 1, 1) := by decide +kernel
theorem dX10_wince_1 : decode cX10_wince 1 = .ok (.iconst 0, 1) := by decide +kernel
theorem dX10_wince_2 : decode cX10_wince 2 = .ok (.aload_n 0, 1) := by decide +kernel
theorem dX10_wince_3 : decode cX10_wince 3 = .ok (.getfield 40, 3) := by decide +kernel
theorem dX10_wince_6 : decode cX10_wince 6 = .ok (.invokevirtual 223, 3) := by decide +kernel
theorem dX10_wince_9 : decode cX10_wince 9 = .ok (.iconst 1, 1) := by decide +kernel
theorem dX10_wince_10 : decode cX10_wince 10 = .ok (.isub, 1) := by decide +kernel
theorem dX10_wince_11 : decode cX10_wince 11 = .ok (.invokestatic 76, 3) := by decide +kernel
theorem dX10_wince_14 : decode cX10_wince 14 = .ok (.ifCond .ne 6, 3) := by decide +kernel
theorem dX10_wince_17 : decode cX10_wince 17 = .ok (.bipush (-101), 2) := by decide +kernel
theorem dX10_wince_19 : decode cX10_wince 19 = .ok (.ireturn, 1) := by decide +kernel
theorem dX10_wince_20 : decode cX10_wince 20 = .ok (.iload_n 2, 1) := by decide +kernel
theorem dX10_wince_21 : decode cX10_wince 21 = .ok (.aload_n 0, 1) := by decide +kernel
theorem dX10_wince_22 : decode cX10_wince 22 = .ok (.getfield 40, 3) := by decide +kernel
theorem dX10_wince_25 : decode cX10_wince 25 = .ok (.invokevirtual 223, 3) := by decide +kernel
theorem dX10_wince_28 : decode cX10_wince 28 = .ok (.invokestatic 178, 3) := by decide +kernel
theorem dX10_wince_31 : decode cX10_wince 31 = .ok (.ifCond .ne 6, 3) := by decide +kernel
theorem dX10_wince_34 : decode cX10_wince 34 = .ok (.bipush (-102), 2) := by decide +kernel
theorem dX10_wince_36 : decode cX10_wince 36 = .ok (.ireturn, 1) := by decide +kernel
theorem dX10_wince_37 : decode cX10_wince 37 = .ok (.aload_n 0, 1) := by decide +kernel
theorem dX10_wince_38 : decode cX10_wince 38 = .ok (.getfield 40, 3) := by decide +kernel
theorem dX10_wince_41 : decode cX10_wince 41 = .ok (.iload_n 1, 1) := by decide +kernel
theorem dX10_wince_42 : decode cX10_wince 42 = .ok (.iload_n 2, 1) := by decide +kernel
theorem dX10_wince_43 : decode cX10_wince 43 = .ok (.invokevirtual 228, 3) := by decide +kernel
theorem dX10_wince_46 : decode cX10_wince 46 = .ok (.ireturn, 1) := by decide +kernel
theorem dX10_pairings_0 : decode cX10_pairings 0 = .ok (.aload_n 0, 1) := by decide +kernel
theorem dX10_pairings_1 : decode cX10_pairings 1 = .ok (.getfield 40, 3) := by decide +kernel
theorem dX10_pairings_4 : decode cX10_pairings 4 = .ok (.invokevirtual 229, 3) := by decide +kernel
theorem dX10_pairings_7 : decode cX10_pairings 7 = .ok (.ireturn, 1) := by decide +kernel
theorem dX10_twin_0 : decode cX10_twin 0 = .ok (.iload_n 1, 1) := by decide +kernel
theorem dX10_twin_1 : decode cX10_twin 1 = .ok (.iconst 0, 1) := by decide +kernel
theorem dX10_twin_2 : decode cX10_twin 2 = .ok (.aload_n 0, 1) := by decide +kernel
theorem dX10_twin_3 : decode cX10_twin 3 = .ok (.getfield 40, 3) := by decide +kernel
theorem dX10_twin_6 : decode cX10_twin 6 = .ok (.invokevirtual 223, 3) := by decide +kernel
theorem dX10_twin_9 : decode cX10_twin 9 = .ok (.iconst 1, 1) := by decide +kernel
theorem dX10_twin_10 : decode cX10_twin 10 = .ok (.isub, 1) := by decide +kernel
theorem dX10_twin_11 : decode cX10_twin 11 = .ok (.invokestatic 76, 3) := by decide +kernel
theorem dX10_twin_14 : decode cX10_twin 14 = .ok (.ifCond .ne 6, 3) := by decide +kernel
theorem dX10_twin_17 : decode cX10_twin 17 = .ok (.bipush (-101), 2) := by decide +kernel
theorem dX10_twin_19 : decode cX10_twin 19 = .ok (.ireturn, 1) := by decide +kernel
theorem dX10_twin_20 : decode cX10_twin 20 = .ok (.aload_n 0, 1) := by decide +kernel
theorem dX10_twin_21 : decode cX10_twin 21 = .ok (.getfield 40, 3) := by decide +kernel
theorem dX10_twin_24 : decode cX10_twin 24 = .ok (.invokevirtual 229, 3) := by decide +kernel
theorem dX10_twin_27 : decode cX10_twin 27 = .ok (.pop, 1) := by decide +kernel
theorem dX10_twin_28 : decode cX10_twin 28 = .ok (.aload_n 0, 1) := by decide +kernel
theorem dX10_twin_29 : decode cX10_twin 29 = .ok (.getfield 40, 3) := by decide +kernel
theorem dX10_twin_32 : decode cX10_twin 32 = .ok (.iload_n 1, 1) := by decide +kernel
theorem dX10_twin_33 : decode cX10_twin 33 = .ok (.invokevirtual 232, 3) := by decide +kernel
theorem dX10_twin_36 : decode cX10_twin 36 = .ok (.ireturn, 1) := by decide +kernel
theorem dX10_round_0 : decode cX10_round 0 = .ok (.iload_n 1, 1) := by decide +kernel
theorem dX10_round_1 : decode cX10_round 1 = .ok (.iconst 2, 1) := by decide +kernel
theorem dX10_round_2 : decode cX10_round 2 = .ok (.bipush 9, 2) := by decide +kernel
theorem dX10_round_4 : decode cX10_round 4 = .ok (.invokestatic 76, 3) := by decide +kernel
theorem dX10_round_7 : decode cX10_round 7 = .ok (.ifCond .eq 17, 3) := by decide +kernel
theorem dX10_round_10 : decode cX10_round 10 = .ok (.iload_n 2, 1) := by decide +kernel
theorem dX10_round_11 : decode cX10_round 11 = .ok (.invokestatic 210, 3) := by decide +kernel
theorem dX10_round_14 : decode cX10_round 14 = .ok (.ifCond .eq 10, 3) := by decide +kernel
theorem dX10_round_17 : decode cX10_round 17 = .ok (.iload_n 3, 1) := by decide +kernel
theorem dX10_round_18 : decode cX10_round 18 = .ok (.invokestatic 149, 3) := by decide +kernel
theorem dX10_round_21 : decode cX10_round 21 = .ok (.ifCond .ne 7, 3) := by decide +kernel
theorem dX10_round_24 : decode cX10_round 24 = .ok (.ldc2_w 152, 3) := by decide +kernel
theorem dX10_round_27 : decode cX10_round 27 = .ok (.lreturn, 1) := by decide +kernel
theorem dX10_round_28 : decode cX10_round 28 = .ok (.iload_n 2, 1) := by decide +kernel
theorem dX10_round_29 : decode cX10_round 29 = .ok (.i2l, 1) := by decide +kernel
theorem dX10_round_30 : decode cX10_round 30 = .ok (.iload_n 1, 1) := by decide +kernel
theorem dX10_round_31 : decode cX10_round 31 = .ok (.iconst 1, 1) := by decide +kernel
theorem dX10_round_32 : decode cX10_round 32 = .ok (.isub, 1) := by decide +kernel
theorem dX10_round_33 : decode cX10_round 33 = .ok (.invokestatic 156, 3) := by decide +kernel
theorem dX10_round_36 : decode cX10_round 36 = .ok (.ldc2_w 154, 3) := by decide +kernel
theorem dX10_round_39 : decode cX10_round 39 = .ok (.iload_n 1, 1) := by decide +kernel
theorem dX10_round_40 : decode cX10_round 40 = .ok (.iconst 1, 1) := by decide +kernel
theorem dX10_round_41 : decode cX10_round 41 = .ok (.isub, 1) := by decide +kernel
theorem dX10_round_42 : decode cX10_round 42 = .ok (.invokestatic 156, 3) := by decide +kernel
theorem dX10_round_45 : decode cX10_round 45 = .ok (.iload_n 3, 1) := by decide +kernel
theorem dX10_round_46 : decode cX10_round 46 = .ok (.invokestatic 163, 3) := by decide +kernel
theorem dX10_round_49 : decode cX10_round 49 = .ok (.lreturn, 1) := by decide +kernel
theorem dX10_image_0 : decode cX10_image 0 = .ok (.aload_n 0, 1) := by decide +kernel
theorem dX10_image_1 : decode cX10_image 1 = .ok (.getfield 54, 3) := by decide +kernel
theorem dX10_image_4 : decode cX10_image 4 = .ok (.aload_n 0, 1) := by decide +kernel
theorem dX10_image_5 : decode cX10_image 5 = .ok (.getfield 19, 3) := by decide +kernel
theorem dX10_image_8 : decode cX10_image 8 = .ok (.aload_n 0, 1) := by decide +kernel
theorem dX10_image_9 : decode cX10_image 9 = .ok (.getfield 58, 3) := by decide +kernel
theorem dX10_image_12 : decode cX10_image 12 = .ok (.aload_n 0, 1) := by decide +kernel
theorem dX10_image_13 : decode cX10_image 13 = .ok (.getfield 33, 3) := by decide +kernel
theorem dX10_image_16 : decode cX10_image 16 = .ok (.aload_n 0, 1) := by decide +kernel
theorem dX10_image_17 : decode cX10_image 17 = .ok (.getfield 40, 3) := by decide +kernel
theorem dX10_image_20 : decode cX10_image 20 = .ok (.invokevirtual 235, 3) := by decide +kernel
theorem dX10_image_23 : decode cX10_image 23 = .ok (.aload_n 0, 1) := by decide +kernel
theorem dX10_image_24 : decode cX10_image 24 = .ok (.getfield 19, 3) := by decide +kernel
theorem dX10_image_27 : decode cX10_image 27 = .ok (.invokevirtual 138, 3) := by decide +kernel
theorem dX10_image_30 : decode cX10_image 30 = .ok (.ireturn, 1) := by decide +kernel
theorem dX10_restore_0 : decode cX10_restore 0 = .ok (.aload_n 0, 1) := by decide +kernel
theorem dX10_restore_1 : decode cX10_restore 1 = .ok (.getfield 54, 3) := by decide +kernel
theorem dX10_restore_4 : decode cX10_restore 4 = .ok (.invokevirtual 239, 3) := by decide +kernel
theorem dX10_restore_7 : decode cX10_restore 7 = .ok (.ifCond .ne 6, 3) := by decide +kernel
theorem dX10_restore_10 : decode cX10_restore 10 = .ok (.bipush (-103), 2) := by decide +kernel
theorem dX10_restore_12 : decode cX10_restore 12 = .ok (.ireturn, 1) := by decide +kernel
theorem dX10_restore_13 : decode cX10_restore 13 = .ok (.aload_n 0, 1) := by decide +kernel
theorem dX10_restore_14 : decode cX10_restore 14 = .ok (.getfield 54, 3) := by decide +kernel
theorem dX10_restore_17 : decode cX10_restore 17 = .ok (.aload_n 0, 1) := by decide +kernel
theorem dX10_restore_18 : decode cX10_restore 18 = .ok (.getfield 19, 3) := by decide +kernel
theorem dX10_restore_21 : decode cX10_restore 21 = .ok (.aload_n 0, 1) := by decide +kernel
theorem dX10_restore_22 : decode cX10_restore 22 = .ok (.getfield 58, 3) := by decide +kernel
theorem dX10_restore_25 : decode cX10_restore 25 = .ok (.aload_n 0, 1) := by decide +kernel
theorem dX10_restore_26 : decode cX10_restore 26 = .ok (.getfield 33, 3) := by decide +kernel
theorem dX10_restore_29 : decode cX10_restore 29 = .ok (.aload_n 0, 1) := by decide +kernel
theorem dX10_restore_30 : decode cX10_restore 30 = .ok (.getfield 40, 3) := by decide +kernel
theorem dX10_restore_33 : decode cX10_restore 33 = .ok (.invokevirtual 242, 3) := by decide +kernel
theorem dX10_restore_36 : decode cX10_restore 36 = .ok (.aload_n 0, 1) := by decide +kernel
theorem dX10_restore_37 : decode cX10_restore 37 = .ok (.getfield 19, 3) := by decide +kernel
theorem dX10_restore_40 : decode cX10_restore 40 = .ok (.invokevirtual 138, 3) := by decide +kernel
theorem dX10_restore_43 : decode cX10_restore 43 = .ok (.ireturn, 1) := by decide +kernel
theorem dX10_count_0 : decode cX10_count 0 = .ok (.iload_n 1, 1) := by decide +kernel
theorem dX10_count_1 : decode cX10_count 1 = .ok (.tableswitch 117 0 8 #[51, 59, 67, 75, 83, 91, 99, 107, 112], 51) := by decide +kernel
theorem dX10_count_52 : decode cX10_count 52 = .ok (.aload_n 0, 1) := by decide +kernel
theorem dX10_count_53 : decode cX10_count 53 = .ok (.getfield 65, 3) := by decide +kernel
theorem dX10_count_56 : decode cX10_count 56 = .ok (.invokevirtual 114, 3) := by decide +kernel
theorem dX10_count_59 : decode cX10_count 59 = .ok (.ireturn, 1) := by decide +kernel
theorem dX10_count_60 : decode cX10_count 60 = .ok (.aload_n 0, 1) := by decide +kernel
theorem dX10_count_61 : decode cX10_count 61 = .ok (.getfield 19, 3) := by decide +kernel
theorem dX10_count_64 : decode cX10_count 64 = .ok (.invokevirtual 138, 3) := by decide +kernel
theorem dX10_count_67 : decode cX10_count 67 = .ok (.ireturn, 1) := by decide +kernel
theorem dX10_count_68 : decode cX10_count 68 = .ok (.aload_n 0, 1) := by decide +kernel
theorem dX10_count_69 : decode cX10_count 69 = .ok (.getfield 26, 3) := by decide +kernel
theorem dX10_count_72 : decode cX10_count 72 = .ok (.invokevirtual 245, 3) := by decide +kernel
theorem dX10_count_75 : decode cX10_count 75 = .ok (.ireturn, 1) := by decide +kernel
theorem dX10_count_76 : decode cX10_count 76 = .ok (.aload_n 0, 1) := by decide +kernel
theorem dX10_count_77 : decode cX10_count 77 = .ok (.getfield 33, 3) := by decide +kernel
theorem dX10_count_80 : decode cX10_count 80 = .ok (.invokevirtual 209, 3) := by decide +kernel
theorem dX10_count_83 : decode cX10_count 83 = .ok (.ireturn, 1) := by decide +kernel
theorem dX10_count_84 : decode cX10_count 84 = .ok (.aload_n 0, 1) := by decide +kernel
theorem dX10_count_85 : decode cX10_count 85 = .ok (.getfield 40, 3) := by decide +kernel
theorem dX10_count_88 : decode cX10_count 88 = .ok (.invokevirtual 223, 3) := by decide +kernel
theorem dX10_count_91 : decode cX10_count 91 = .ok (.ireturn, 1) := by decide +kernel
theorem dX10_count_92 : decode cX10_count 92 = .ok (.aload_n 0, 1) := by decide +kernel
theorem dX10_count_93 : decode cX10_count 93 = .ok (.getfield 40, 3) := by decide +kernel
theorem dX10_count_96 : decode cX10_count 96 = .ok (.invokevirtual 248, 3) := by decide +kernel
theorem dX10_count_99 : decode cX10_count 99 = .ok (.ireturn, 1) := by decide +kernel
theorem dX10_count_100 : decode cX10_count 100 = .ok (.aload_n 0, 1) := by decide +kernel
theorem dX10_count_101 : decode cX10_count 101 = .ok (.getfield 10, 3) := by decide +kernel
theorem dX10_count_104 : decode cX10_count 104 = .ok (.invokevirtual 91, 3) := by decide +kernel
theorem dX10_count_107 : decode cX10_count 107 = .ok (.ireturn, 1) := by decide +kernel
theorem dX10_count_108 : decode cX10_count 108 = .ok (.aload_n 0, 1) := by decide +kernel
theorem dX10_count_109 : decode cX10_count 109 = .ok (.getfield 110, 3) := by decide +kernel
theorem dX10_count_112 : decode cX10_count 112 = .ok (.ireturn, 1) := by decide +kernel
theorem dX10_count_113 : decode cX10_count 113 = .ok (.aload_n 0, 1) := by decide +kernel
theorem dX10_count_114 : decode cX10_count 114 = .ok (.getfield 181, 3) := by decide +kernel
theorem dX10_count_117 : decode cX10_count 117 = .ok (.ireturn, 1) := by decide +kernel
theorem dX10_count_118 : decode cX10_count 118 = .ok (.bipush (-102), 2) := by decide +kernel
theorem dX10_count_120 : decode cX10_count 120 = .ok (.ireturn, 1) := by decide +kernel
theorem dX10_digest_0 : decode cX10_digest 0 = .ok (.ldc2_w 251, 3) := by decide +kernel
theorem dX10_digest_3 : decode cX10_digest 3 = .ok (.lstore_n 1, 1) := by decide +kernel
theorem dX10_digest_4 : decode cX10_digest 4 = .ok (.aload_n 0, 1) := by decide +kernel
theorem dX10_digest_5 : decode cX10_digest 5 = .ok (.lload_n 1, 1) := by decide +kernel
theorem dX10_digest_6 : decode cX10_digest 6 = .ok (.invokevirtual 253, 3) := by decide +kernel
theorem dX10_digest_9 : decode cX10_digest 9 = .ok (.lstore_n 1, 1) := by decide +kernel
theorem dX10_digest_10 : decode cX10_digest 10 = .ok (.aload_n 0, 1) := by decide +kernel
theorem dX10_digest_11 : decode cX10_digest 11 = .ok (.lload_n 1, 1) := by decide +kernel
theorem dX10_digest_12 : decode cX10_digest 12 = .ok (.invokevirtual 257, 3) := by decide +kernel
theorem dX10_digest_15 : decode cX10_digest 15 = .ok (.lstore_n 1, 1) := by decide +kernel
theorem dX10_digest_16 : decode cX10_digest 16 = .ok (.lload_n 1, 1) := by decide +kernel
theorem dX10_digest_17 : decode cX10_digest 17 = .ok (.aload_n 0, 1) := by decide +kernel
theorem dX10_digest_18 : decode cX10_digest 18 = .ok (.invokevirtual 260, 3) := by decide +kernel
theorem dX10_digest_21 : decode cX10_digest 21 = .ok (.i2l, 1) := by decide +kernel
theorem dX10_digest_22 : decode cX10_digest 22 = .ok (.invokestatic 263, 3) := by decide +kernel
theorem dX10_digest_25 : decode cX10_digest 25 = .ok (.lstore_n 1, 1) := by decide +kernel
theorem dX10_digest_26 : decode cX10_digest 26 = .ok (.aload_n 0, 1) := by decide +kernel
theorem dX10_digest_27 : decode cX10_digest 27 = .ok (.lload_n 1, 1) := by decide +kernel
theorem dX10_digest_28 : decode cX10_digest 28 = .ok (.invokevirtual 267, 3) := by decide +kernel
theorem dX10_digest_31 : decode cX10_digest 31 = .ok (.lstore_n 1, 1) := by decide +kernel

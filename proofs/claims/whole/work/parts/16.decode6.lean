theorem dX11_closeWays_49 : decode cX11_closeWays 49 = .ok (.iadd, 1) := by decide +kernel
theorem dX11_closeWays_50 : decode cX11_closeWays 50 = .ok (.invokevirtual 174, 3) := by decide +kernel
theorem dX11_closeWays_53 : decode cX11_closeWays 53 = .ok (.iinc 3 1, 3) := by decide +kernel
theorem dX11_closeWays_56 : decode cX11_closeWays 56 = .ok (.goto (-38), 3) := by decide +kernel
theorem dX11_closeWays_59 : decode cX11_closeWays 59 = .ok (.iinc 2 1, 3) := by decide +kernel
theorem dX11_closeWays_62 : decode cX11_closeWays 62 = .ok (.goto (-52), 3) := by decide +kernel
theorem dX11_closeWays_65 : decode cX11_closeWays 65 = .ok (.iinc 1 1, 3) := by decide +kernel
theorem dX11_closeWays_68 : decode cX11_closeWays 68 = .ok (.goto (-66), 3) := by decide +kernel
theorem dX11_closeWays_71 : decode cX11_closeWays 71 = .ok (.return_, 1) := by decide +kernel
theorem dX11_soonestNow_0 : decode cX11_soonestNow 0 = .ok (.aload_n 0, 1) := by decide +kernel
theorem dX11_soonestNow_1 : decode cX11_soonestNow 1 = .ok (.getfield 31, 3) := by decide +kernel
theorem dX11_soonestNow_4 : decode cX11_soonestNow 4 = .ok (.bipush 6, 2) := by decide +kernel
theorem dX11_soonestNow_6 : decode cX11_soonestNow 6 = .ok (.iload_n 1, 1) := by decide +kernel
theorem dX11_soonestNow_7 : decode cX11_soonestNow 7 = .ok (.imul, 1) := by decide +kernel
theorem dX11_soonestNow_8 : decode cX11_soonestNow 8 = .ok (.iload_n 2, 1) := by decide +kernel
theorem dX11_soonestNow_9 : decode cX11_soonestNow 9 = .ok (.iadd, 1) := by decide +kernel
theorem dX11_soonestNow_10 : decode cX11_soonestNow 10 = .ok (.iaload, 1) := by decide +kernel
theorem dX11_soonestNow_11 : decode cX11_soonestNow 11 = .ok (.istore_n 3, 1) := by decide +kernel
theorem dX11_soonestNow_12 : decode cX11_soonestNow 12 = .ok (.iload_n 3, 1) := by decide +kernel
theorem dX11_soonestNow_13 : decode cX11_soonestNow 13 = .ok (.ldc 178, 2) := by decide +kernel
theorem dX11_soonestNow_15 : decode cX11_soonestNow 15 = .ok (.if_icmp .lt 7, 3) := by decide +kernel
theorem dX11_soonestNow_18 : decode cX11_soonestNow 18 = .ok (.iconst (-1), 1) := by decide +kernel
theorem dX11_soonestNow_19 : decode cX11_soonestNow 19 = .ok (.goto 4, 3) := by decide +kernel
theorem dX11_soonestNow_22 : decode cX11_soonestNow 22 = .ok (.iload_n 3, 1) := by decide +kernel
theorem dX11_soonestNow_23 : decode cX11_soonestNow 23 = .ok (.ireturn, 1) := by decide +kernel
theorem dX11_soonest_0 : decode cX11_soonest 0 = .ok (.iload_n 1, 1) := by decide +kernel
theorem dX11_soonest_1 : decode cX11_soonest 1 = .ok (.invokestatic 76, 3) := by decide +kernel
theorem dX11_soonest_4 : decode cX11_soonest 4 = .ok (.ifCond .eq 10, 3) := by decide +kernel
theorem dX11_soonest_7 : decode cX11_soonest 7 = .ok (.iload_n 2, 1) := by decide +kernel
theorem dX11_soonest_8 : decode cX11_soonest 8 = .ok (.invokestatic 76, 3) := by decide +kernel
theorem dX11_soonest_11 : decode cX11_soonest 11 = .ok (.ifCond .ne 6, 3) := by decide +kernel
theorem dX11_soonest_14 : decode cX11_soonest 14 = .ok (.bipush (-101), 2) := by decide +kernel
theorem dX11_soonest_16 : decode cX11_soonest 16 = .ok (.ireturn, 1) := by decide +kernel
theorem dX11_soonest_17 : decode cX11_soonest 17 = .ok (.aload_n 0, 1) := by decide +kernel
theorem dX11_soonest_18 : decode cX11_soonest 18 = .ok (.iconst 0, 1) := by decide +kernel
theorem dX11_soonest_19 : decode cX11_soonest 19 = .ok (.invokevirtual 183, 3) := by decide +kernel
theorem dX11_soonest_22 : decode cX11_soonest 22 = .ok (.aload_n 0, 1) := by decide +kernel
theorem dX11_soonest_23 : decode cX11_soonest 23 = .ok (.invokevirtual 187, 3) := by decide +kernel
theorem dX11_soonest_26 : decode cX11_soonest 26 = .ok (.aload_n 0, 1) := by decide +kernel
theorem dX11_soonest_27 : decode cX11_soonest 27 = .ok (.iload_n 1, 1) := by decide +kernel
theorem dX11_soonest_28 : decode cX11_soonest 28 = .ok (.iload_n 2, 1) := by decide +kernel
theorem dX11_soonest_29 : decode cX11_soonest 29 = .ok (.invokevirtual 190, 3) := by decide +kernel
theorem dX11_soonest_32 : decode cX11_soonest 32 = .ok (.ireturn, 1) := by decide +kernel
theorem dX11_unseen_0 : decode cX11_unseen 0 = .ok (.iload_n 1, 1) := by decide +kernel
theorem dX11_unseen_1 : decode cX11_unseen 1 = .ok (.invokestatic 76, 3) := by decide +kernel
theorem dX11_unseen_4 : decode cX11_unseen 4 = .ok (.ifCond .eq 10, 3) := by decide +kernel
theorem dX11_unseen_7 : decode cX11_unseen 7 = .ok (.iload_n 2, 1) := by decide +kernel
theorem dX11_unseen_8 : decode cX11_unseen 8 = .ok (.invokestatic 76, 3) := by decide +kernel
theorem dX11_unseen_11 : decode cX11_unseen 11 = .ok (.ifCond .ne 6, 3) := by decide +kernel
theorem dX11_unseen_14 : decode cX11_unseen 14 = .ok (.bipush (-101), 2) := by decide +kernel
theorem dX11_unseen_16 : decode cX11_unseen 16 = .ok (.ireturn, 1) := by decide +kernel
theorem dX11_unseen_17 : decode cX11_unseen 17 = .ok (.iload_n 3, 1) := by decide +kernel
theorem dX11_unseen_18 : decode cX11_unseen 18 = .ok (.i2l, 1) := by decide +kernel
theorem dX11_unseen_19 : decode cX11_unseen 19 = .ok (.lconst 0, 1) := by decide +kernel
theorem dX11_unseen_20 : decode cX11_unseen 20 = .ok (.ldc2_w 193, 3) := by decide +kernel
theorem dX11_unseen_23 : decode cX11_unseen 23 = .ok (.invokestatic 70, 3) := by decide +kernel
theorem dX11_unseen_26 : decode cX11_unseen 26 = .ok (.ifCond .ne 6, 3) := by decide +kernel
theorem dX11_unseen_29 : decode cX11_unseen 29 = .ok (.bipush (-102), 2) := by decide +kernel
theorem dX11_unseen_31 : decode cX11_unseen 31 = .ok (.ireturn, 1) := by decide +kernel
theorem dX11_unseen_32 : decode cX11_unseen 32 = .ok (.aload_n 0, 1) := by decide +kernel
theorem dX11_unseen_33 : decode cX11_unseen 33 = .ok (.iload_n 3, 1) := by decide +kernel
theorem dX11_unseen_34 : decode cX11_unseen 34 = .ok (.invokevirtual 183, 3) := by decide +kernel
theorem dX11_unseen_37 : decode cX11_unseen 37 = .ok (.aload_n 0, 1) := by decide +kernel
theorem dX11_unseen_38 : decode cX11_unseen 38 = .ok (.invokevirtual 187, 3) := by decide +kernel
theorem dX11_unseen_41 : decode cX11_unseen 41 = .ok (.aload_n 0, 1) := by decide +kernel
theorem dX11_unseen_42 : decode cX11_unseen 42 = .ok (.iload_n 1, 1) := by decide +kernel
theorem dX11_unseen_43 : decode cX11_unseen 43 = .ok (.iload_n 2, 1) := by decide +kernel
theorem dX11_unseen_44 : decode cX11_unseen 44 = .ok (.invokevirtual 190, 3) := by decide +kernel
theorem dX11_unseen_47 : decode cX11_unseen 47 = .ok (.ireturn, 1) := by decide +kernel
theorem dX11_isSoon_0 : decode cX11_isSoon 0 = .ok (.aload_n 0, 1) := by decide +kernel
theorem dX11_isSoon_1 : decode cX11_isSoon 1 = .ok (.iconst 0, 1) := by decide +kernel
theorem dX11_isSoon_2 : decode cX11_isSoon 2 = .ok (.invokevirtual 183, 3) := by decide +kernel
theorem dX11_isSoon_5 : decode cX11_isSoon 5 = .ok (.iload_n 2, 1) := by decide +kernel
theorem dX11_isSoon_6 : decode cX11_isSoon 6 = .ok (.iconst (-1), 1) := by decide +kernel
theorem dX11_isSoon_7 : decode cX11_isSoon 7 = .ok (.if_icmp .eq 29, 3) := by decide +kernel
theorem dX11_isSoon_10 : decode cX11_isSoon 10 = .ok (.aload_n 0, 1) := by decide +kernel
theorem dX11_isSoon_11 : decode cX11_isSoon 11 = .ok (.iload_n 2, 1) := by decide +kernel
theorem dX11_isSoon_12 : decode cX11_isSoon 12 = .ok (.bipush 6, 2) := by decide +kernel
theorem dX11_isSoon_14 : decode cX11_isSoon 14 = .ok (.idiv, 1) := by decide +kernel
theorem dX11_isSoon_15 : decode cX11_isSoon 15 = .ok (.iload_n 2, 1) := by decide +kernel
theorem dX11_isSoon_16 : decode cX11_isSoon 16 = .ok (.bipush 6, 2) := by decide +kernel
theorem dX11_isSoon_18 : decode cX11_isSoon 18 = .ok (.irem, 1) := by decide +kernel
theorem dX11_isSoon_19 : decode cX11_isSoon 19 = .ok (.iconst 1, 1) := by decide +kernel
theorem dX11_isSoon_20 : decode cX11_isSoon 20 = .ok (.invokevirtual 174, 3) := by decide +kernel
theorem dX11_isSoon_23 : decode cX11_isSoon 23 = .ok (.aload_n 0, 1) := by decide +kernel
theorem dX11_isSoon_24 : decode cX11_isSoon 24 = .ok (.iload_n 2, 1) := by decide +kernel
theorem dX11_isSoon_25 : decode cX11_isSoon 25 = .ok (.bipush 6, 2) := by decide +kernel
theorem dX11_isSoon_27 : decode cX11_isSoon 27 = .ok (.irem, 1) := by decide +kernel
theorem dX11_isSoon_28 : decode cX11_isSoon 28 = .ok (.iload_n 2, 1) := by decide +kernel
theorem dX11_isSoon_29 : decode cX11_isSoon 29 = .ok (.bipush 6, 2) := by decide +kernel
theorem dX11_isSoon_31 : decode cX11_isSoon 31 = .ok (.idiv, 1) := by decide +kernel
theorem dX11_isSoon_32 : decode cX11_isSoon 32 = .ok (.iconst 1, 1) := by decide +kernel
theorem dX11_isSoon_33 : decode cX11_isSoon 33 = .ok (.invokevirtual 174, 3) := by decide +kernel
theorem dX11_isSoon_36 : decode cX11_isSoon 36 = .ok (.iload_n 3, 1) := by decide +kernel
theorem dX11_isSoon_37 : decode cX11_isSoon 37 = .ok (.iconst (-1), 1) := by decide +kernel
theorem dX11_isSoon_38 : decode cX11_isSoon 38 = .ok (.if_icmp .eq 29, 3) := by decide +kernel
theorem dX11_isSoon_41 : decode cX11_isSoon 41 = .ok (.aload_n 0, 1) := by decide +kernel
theorem dX11_isSoon_42 : decode cX11_isSoon 42 = .ok (.iload_n 3, 1) := by decide +kernel
theorem dX11_isSoon_43 : decode cX11_isSoon 43 = .ok (.bipush 6, 2) := by decide +kernel
theorem dX11_isSoon_45 : decode cX11_isSoon 45 = .ok (.idiv, 1) := by decide +kernel
theorem dX11_isSoon_46 : decode cX11_isSoon 46 = .ok (.iload_n 3, 1) := by decide +kernel
theorem dX11_isSoon_47 : decode cX11_isSoon 47 = .ok (.bipush 6, 2) := by decide +kernel
theorem dX11_isSoon_49 : decode cX11_isSoon 49 = .ok (.irem, 1) := by decide +kernel
theorem dX11_isSoon_50 : decode cX11_isSoon 50 = .ok (.iconst 1, 1) := by decide +kernel
theorem dX11_isSoon_51 : decode cX11_isSoon 51 = .ok (.invokevirtual 174, 3) := by decide +kernel
theorem dX11_isSoon_54 : decode cX11_isSoon 54 = .ok (.aload_n 0, 1) := by decide +kernel
theorem dX11_isSoon_55 : decode cX11_isSoon 55 = .ok (.iload_n 3, 1) := by decide +kernel
theorem dX11_isSoon_56 : decode cX11_isSoon 56 = .ok (.bipush 6, 2) := by decide +kernel
theorem dX11_isSoon_58 : decode cX11_isSoon 58 = .ok (.irem, 1) := by decide +kernel
theorem dX11_isSoon_59 : decode cX11_isSoon 59 = .ok (.iload_n 3, 1) := by decide +kernel
theorem dX11_isSoon_60 : decode cX11_isSoon 60 = .ok (.bipush 6, 2) := by decide +kernel
theorem dX11_isSoon_62 : decode cX11_isSoon 62 = .ok (.idiv, 1) := by decide +kernel
theorem dX11_isSoon_63 : decode cX11_isSoon 63 = .ok (.iconst 1, 1) := by decide +kernel
theorem dX11_isSoon_64 : decode cX11_isSoon 64 = .ok (.invokevirtual 174, 3) := by decide +kernel
theorem dX11_isSoon_67 : decode cX11_isSoon 67 = .ok (.aload_n 0, 1) := by decide +kernel
theorem dX11_isSoon_68 : decode cX11_isSoon 68 = .ok (.invokevirtual 187, 3) := by decide +kernel
theorem dX11_isSoon_71 : decode cX11_isSoon 71 = .ok (.iconst 1, 1) := by decide +kernel
theorem dX11_isSoon_72 : decode cX11_isSoon 72 = .ok (.istore 4, 2) := by decide +kernel
theorem dX11_isSoon_74 : decode cX11_isSoon 74 = .ok (.iconst 0, 1) := by decide +kernel
theorem dX11_isSoon_75 : decode cX11_isSoon 75 = .ok (.istore 5, 2) := by decide +kernel
theorem dX11_isSoon_77 : decode cX11_isSoon 77 = .ok (.iload 5, 2) := by decide +kernel
theorem dX11_isSoon_79 : decode cX11_isSoon 79 = .ok (.bipush 36, 2) := by decide +kernel
theorem dX11_isSoon_81 : decode cX11_isSoon 81 = .ok (.if_icmp .ge 32, 3) := by decide +kernel
theorem dX11_isSoon_84 : decode cX11_isSoon 84 = .ok (.iload 4, 2) := by decide +kernel
theorem dX11_isSoon_86 : decode cX11_isSoon 86 = .ok (.ifCond .eq 18, 3) := by decide +kernel
theorem dX11_isSoon_89 : decode cX11_isSoon 89 = .ok (.aload_n 0, 1) := by decide +kernel
theorem dX11_isSoon_90 : decode cX11_isSoon 90 = .ok (.getfield 31, 3) := by decide +kernel
theorem dX11_isSoon_93 : decode cX11_isSoon 93 = .ok (.iload 5, 2) := by decide +kernel
theorem dX11_isSoon_95 : decode cX11_isSoon 95 = .ok (.iaload, 1) := by decide +kernel
theorem dX11_isSoon_96 : decode cX11_isSoon 96 = .ok (.iload_n 1, 1) := by decide +kernel
theorem dX11_isSoon_97 : decode cX11_isSoon 97 = .ok (.if_icmp .gt 7, 3) := by decide +kernel
theorem dX11_isSoon_100 : decode cX11_isSoon 100 = .ok (.iconst 1, 1) := by decide +kernel
theorem dX11_isSoon_101 : decode cX11_isSoon 101 = .ok (.goto 4, 3) := by decide +kernel
theorem dX11_isSoon_104 : decode cX11_isSoon 104 = .ok (.iconst 0, 1) := by decide +kernel
theorem dX11_isSoon_105 : decode cX11_isSoon 105 = .ok (.istore 4, 2) := by decide +kernel
theorem dX11_isSoon_107 : decode cX11_isSoon 107 = .ok (.iinc 5 1, 3) := by decide +kernel
theorem dX11_isSoon_110 : decode cX11_isSoon 110 = .ok (.goto (-33), 3) := by decide +kernel
theorem dX11_isSoon_113 : decode cX11_isSoon 113 = .ok (.iload 4, 2) := by decide +kernel
theorem dX11_isSoon_115 : decode cX11_isSoon 115 = .ok (.ireturn, 1) := by decide +kernel
theorem dX11_tellPairs_0 : decode cX11_tellPairs 0 = .ok (.iload_n 3, 1) := by decide +kernel
theorem dX11_tellPairs_1 : decode cX11_tellPairs 1 = .ok (.iconst 3, 1) := by decide +kernel
theorem dX11_tellPairs_2 : decode cX11_tellPairs 2 = .ok (.if_icmp .ge 7, 3) := by decide +kernel
theorem dX11_tellPairs_5 : decode cX11_tellPairs 5 = .ok (.iload_n 1, 1) := by decide +kernel
theorem dX11_tellPairs_6 : decode cX11_tellPairs 6 = .ok (.goto 4, 3) := by decide +kernel
theorem dX11_tellPairs_9 : decode cX11_tellPairs 9 = .ok (.iload_n 2, 1) := by decide +kernel
theorem dX11_tellPairs_10 : decode cX11_tellPairs 10 = .ok (.istore 4, 2) := by decide +kernel
theorem dX11_tellPairs_12 : decode cX11_tellPairs 12 = .ok (.iload_n 3, 1) := by decide +kernel
theorem dX11_tellPairs_13 : decode cX11_tellPairs 13 = .ok (.ifCond .ne 7, 3) := by decide +kernel
theorem dX11_tellPairs_16 : decode cX11_tellPairs 16 = .ok (.iload_n 0, 1) := by decide +kernel
theorem dX11_tellPairs_17 : decode cX11_tellPairs 17 = .ok (.goto 33, 3) := by decide +kernel
theorem dX11_tellPairs_20 : decode cX11_tellPairs 20 = .ok (.iload 4, 2) := by decide +kernel
theorem dX11_tellPairs_22 : decode cX11_tellPairs 22 = .ok (.iconst (-1), 1) := by decide +kernel
theorem dX11_tellPairs_23 : decode cX11_tellPairs 23 = .ok (.if_icmp .ne 7, 3) := by decide +kernel
theorem dX11_tellPairs_26 : decode cX11_tellPairs 26 = .ok (.iconst (-1), 1) := by decide +kernel
theorem dX11_tellPairs_27 : decode cX11_tellPairs 27 = .ok (.goto 23, 3) := by decide +kernel
theorem dX11_tellPairs_30 : decode cX11_tellPairs 30 = .ok (.iload_n 3, 1) := by decide +kernel
theorem dX11_tellPairs_31 : decode cX11_tellPairs 31 = .ok (.iconst 2, 1) := by decide +kernel
theorem dX11_tellPairs_32 : decode cX11_tellPairs 32 = .ok (.irem, 1) := by decide +kernel
theorem dX11_tellPairs_33 : decode cX11_tellPairs 33 = .ok (.iconst 1, 1) := by decide +kernel
theorem dX11_tellPairs_34 : decode cX11_tellPairs 34 = .ok (.if_icmp .ne 11, 3) := by decide +kernel
theorem dX11_tellPairs_37 : decode cX11_tellPairs 37 = .ok (.iload 4, 2) := by decide +kernel
theorem dX11_tellPairs_39 : decode cX11_tellPairs 39 = .ok (.bipush 6, 2) := by decide +kernel
theorem dX11_tellPairs_41 : decode cX11_tellPairs 41 = .ok (.idiv, 1) := by decide +kernel
theorem dX11_tellPairs_42 : decode cX11_tellPairs 42 = .ok (.goto 8, 3) := by decide +kernel
theorem dX11_tellPairs_45 : decode cX11_tellPairs 45 = .ok (.iload 4, 2) := by decide +kernel
theorem dX11_tellPairs_47 : decode cX11_tellPairs 47 = .ok (.bipush 6, 2) := by decide +kernel
theorem dX11_tellPairs_49 : decode cX11_tellPairs 49 = .ok (.irem, 1) := by decide +kernel
theorem dX11_tellPairs_50 : decode cX11_tellPairs 50 = .ok (.ireturn, 1) := by decide +kernel
theorem dX11_kept_0 : decode cX11_kept 0 = .ok (.iload_n 1, 1) := by decide +kernel
theorem dX11_kept_1 : decode cX11_kept 1 = .ok (.i2l, 1) := by decide +kernel
theorem dX11_kept_2 : decode cX11_kept 2 = .ok (.lconst 0, 1) := by decide +kernel
theorem dX11_kept_3 : decode cX11_kept 3 = .ok (.ldc2_w 137, 3) := by decide +kernel
theorem dX11_kept_6 : decode cX11_kept 6 = .ok (.invokestatic 70, 3) := by decide +kernel
theorem dX11_kept_9 : decode cX11_kept 9 = .ok (.ifCond .eq 15, 3) := by decide +kernel
theorem dX11_kept_12 : decode cX11_kept 12 = .ok (.iload_n 2, 1) := by decide +kernel
theorem dX11_kept_13 : decode cX11_kept 13 = .ok (.i2l, 1) := by decide +kernel
theorem dX11_kept_14 : decode cX11_kept 14 = .ok (.lconst 0, 1) := by decide +kernel
theorem dX11_kept_15 : decode cX11_kept 15 = .ok (.ldc2_w 195, 3) := by decide +kernel
theorem dX11_kept_18 : decode cX11_kept 18 = .ok (.invokestatic 70, 3) := by decide +kernel
theorem dX11_kept_21 : decode cX11_kept 21 = .ok (.ifCond .ne 6, 3) := by decide +kernel
theorem dX11_kept_24 : decode cX11_kept 24 = .ok (.bipush (-102), 2) := by decide +kernel
theorem dX11_kept_26 : decode cX11_kept 26 = .ok (.ireturn, 1) := by decide +kernel
theorem dX11_kept_27 : decode cX11_kept 27 = .ok (.aload_n 0, 1) := by decide +kernel
theorem dX11_kept_28 : decode cX11_kept 28 = .ok (.getfield 197, 3) := by decide +kernel
theorem dX11_kept_31 : decode cX11_kept 31 = .ok (.bipush 20, 2) := by decide +kernel
theorem dX11_kept_33 : decode cX11_kept 33 = .ok (.if_icmp .ne 6, 3) := by decide +kernel
theorem dX11_kept_36 : decode cX11_kept 36 = .ok (.bipush (-103), 2) := by decide +kernel
theorem dX11_kept_38 : decode cX11_kept 38 = .ok (.ireturn, 1) := by decide +kernel
theorem dX11_kept_39 : decode cX11_kept 39 = .ok (.aload_n 0, 1) := by decide +kernel
theorem dX11_kept_40 : decode cX11_kept 40 = .ok (.dup, 1) := by decide +kernel
theorem dX11_kept_41 : decode cX11_kept 41 = .ok (.getfield 197, 3) := by decide +kernel
theorem dX11_kept_44 : decode cX11_kept 44 = .ok (.iconst 1, 1) := by decide +kernel
theorem dX11_kept_45 : decode cX11_kept 45 = .ok (.iadd, 1) := by decide +kernel
theorem dX11_kept_46 : decode cX11_kept 46 = .ok (.putfield 197, 3) := by decide +kernel
theorem dX11_kept_49 : decode cX11_kept 49 = .ok (.aload_n 0, 1) := by decide +kernel
theorem dX11_kept_50 : decode cX11_kept 50 = .ok (.iload_n 1, 1) := by decide +kernel
theorem dX11_kept_51 : decode cX11_kept 51 = .ok (.iconst (-1), 1) := by decide +kernel
theorem dX11_kept_52 : decode cX11_kept 52 = .ok (.iconst (-1), 1) := by decide +kernel
theorem dX11_kept_53 : decode cX11_kept 53 = .ok (.invokevirtual 200, 3) := by decide +kernel
theorem dX11_kept_56 : decode cX11_kept 56 = .ok (.ifCond .eq 11, 3) := by decide +kernel
theorem dX11_kept_59 : decode cX11_kept 59 = .ok (.iconst 0, 1) := by decide +kernel
theorem dX11_kept_60 : decode cX11_kept 60 = .ok (.iconst (-1), 1) := by decide +kernel
theorem dX11_kept_61 : decode cX11_kept 61 = .ok (.iconst (-1), 1) := by decide +kernel
theorem dX11_kept_62 : decode cX11_kept 62 = .ok (.iload_n 2, 1) := by decide +kernel
theorem dX11_kept_63 : decode cX11_kept 63 = .ok (.invokestatic 204, 3) := by decide +kernel
theorem dX11_kept_66 : decode cX11_kept 66 = .ok (.ireturn, 1) := by decide +kernel
theorem dX11_kept_67 : decode cX11_kept 67 = .ok (.iconst 0, 1) := by decide +kernel
theorem dX11_kept_68 : decode cX11_kept 68 = .ok (.istore_n 3, 1) := by decide +kernel
theorem dX11_kept_69 : decode cX11_kept 69 = .ok (.iload_n 3, 1) := by decide +kernel
theorem dX11_kept_70 : decode cX11_kept 70 = .ok (.bipush 36, 2) := by decide +kernel
theorem dX11_kept_72 : decode cX11_kept 72 = .ok (.if_icmp .ge 38, 3) := by decide +kernel
theorem dX11_kept_75 : decode cX11_kept 75 = .ok (.iload_n 3, 1) := by decide +kernel
theorem dX11_kept_76 : decode cX11_kept 76 = .ok (.bipush 6, 2) := by decide +kernel
theorem dX11_kept_78 : decode cX11_kept 78 = .ok (.idiv, 1) := by decide +kernel
theorem dX11_kept_79 : decode cX11_kept 79 = .ok (.iload_n 3, 1) := by decide +kernel
theorem dX11_kept_80 : decode cX11_kept 80 = .ok (.bipush 6, 2) := by decide +kernel
theorem dX11_kept_82 : decode cX11_kept 82 = .ok (.irem, 1) := by decide +kernel
theorem dX11_kept_83 : decode cX11_kept 83 = .ok (.if_icmp .ge 21, 3) := by decide +kernel
theorem dX11_kept_86 : decode cX11_kept 86 = .ok (.aload_n 0, 1) := by decide +kernel
theorem dX11_kept_87 : decode cX11_kept 87 = .ok (.iload_n 1, 1) := by decide +kernel
theorem dX11_kept_88 : decode cX11_kept 88 = .ok (.iload_n 3, 1) := by decide +kernel
theorem dX11_kept_89 : decode cX11_kept 89 = .ok (.iconst (-1), 1) := by decide +kernel
theorem dX11_kept_90 : decode cX11_kept 90 = .ok (.invokevirtual 200, 3) := by decide +kernel
theorem dX11_kept_93 : decode cX11_kept 93 = .ok (.ifCond .eq 11, 3) := by decide +kernel
theorem dX11_kept_96 : decode cX11_kept 96 = .ok (.iconst 1, 1) := by decide +kernel
theorem dX11_kept_97 : decode cX11_kept 97 = .ok (.iload_n 3, 1) := by decide +kernel
theorem dX11_kept_98 : decode cX11_kept 98 = .ok (.iconst (-1), 1) := by decide +kernel
theorem dX11_kept_99 : decode cX11_kept 99 = .ok (.iload_n 2, 1) := by decide +kernel
theorem dX11_kept_100 : decode cX11_kept 100 = .ok (.invokestatic 204, 3) := by decide +kernel
theorem dX11_kept_103 : decode cX11_kept 103 = .ok (.ireturn, 1) := by decide +kernel
theorem dX11_kept_104 : decode cX11_kept 104 = .ok (.iinc 3 1, 3) := by decide +kernel
theorem dX11_kept_107 : decode cX11_kept 107 = .ok (.goto (-38), 3) := by decide +kernel
theorem dX11_kept_110 : decode cX11_kept 110 = .ok (.iconst 0, 1) := by decide +kernel
theorem dX11_kept_111 : decode cX11_kept 111 = .ok (.istore_n 3, 1) := by decide +kernel
theorem dX11_kept_112 : decode cX11_kept 112 = .ok (.iload_n 3, 1) := by decide +kernel
theorem dX11_kept_113 : decode cX11_kept 113 = .ok (.bipush 36, 2) := by decide +kernel
theorem dX11_kept_115 : decode cX11_kept 115 = .ok (.if_icmp .ge 71, 3) := by decide +kernel
theorem dX11_kept_118 : decode cX11_kept 118 = .ok (.iload_n 3, 1) := by decide +kernel
theorem dX11_kept_119 : decode cX11_kept 119 = .ok (.iconst 1, 1) := by decide +kernel
theorem dX11_kept_120 : decode cX11_kept 120 = .ok (.iadd, 1) := by decide +kernel
theorem dX11_kept_121 : decode cX11_kept 121 = .ok (.istore 4, 2) := by decide +kernel
theorem dX11_kept_123 : decode cX11_kept 123 = .ok (.iload 4, 2) := by decide +kernel
theorem dX11_kept_125 : decode cX11_kept 125 = .ok (.bipush 36, 2) := by decide +kernel
theorem dX11_kept_127 : decode cX11_kept 127 = .ok (.if_icmp .ge 53, 3) := by decide +kernel
theorem dX11_kept_130 : decode cX11_kept 130 = .ok (.iload_n 3, 1) := by decide +kernel
theorem dX11_kept_131 : decode cX11_kept 131 = .ok (.bipush 6, 2) := by decide +kernel
theorem dX11_kept_133 : decode cX11_kept 133 = .ok (.idiv, 1) := by decide +kernel
theorem dX11_kept_134 : decode cX11_kept 134 = .ok (.iload_n 3, 1) := by decide +kernel
theorem dX11_kept_135 : decode cX11_kept 135 = .ok (.bipush 6, 2) := by decide +kernel
theorem dX11_kept_137 : decode cX11_kept 137 = .ok (.irem, 1) := by decide +kernel
theorem dX11_kept_138 : decode cX11_kept 138 = .ok (.if_icmp .ge 42, 3) := by decide +kernel
theorem dX11_kept_141 : decode cX11_kept 141 = .ok (.iload 4, 2) := by decide +kernel
theorem dX11_kept_143 : decode cX11_kept 143 = .ok (.bipush 6, 2) := by decide +kernel
theorem dX11_kept_145 : decode cX11_kept 145 = .ok (.idiv, 1) := by decide +kernel
theorem dX11_kept_146 : decode cX11_kept 146 = .ok (.iload 4, 2) := by decide +kernel
theorem dX11_kept_148 : decode cX11_kept 148 = .ok (.bipush 6, 2) := by decide +kernel
theorem dX11_kept_150 : decode cX11_kept 150 = .ok (.irem, 1) := by decide +kernel
theorem dX11_kept_151 : decode cX11_kept 151 = .ok (.if_icmp .ge 23, 3) := by decide +kernel
theorem dX11_kept_154 : decode cX11_kept 154 = .ok (.aload_n 0, 1) := by decide +kernel
theorem dX11_kept_155 : decode cX11_kept 155 = .ok (.iload_n 1, 1) := by decide +kernel
theorem dX11_kept_156 : decode cX11_kept 156 = .ok (.iload_n 3, 1) := by decide +kernel
theorem dX11_kept_157 : decode cX11_kept 157 = .ok (.iload 4, 2) := by decide +kernel
theorem dX11_kept_159 : decode cX11_kept 159 = .ok (.invokevirtual 200, 3) := by decide +kernel
theorem dX11_kept_162 : decode cX11_kept 162 = .ok (.ifCond .eq 12, 3) := by decide +kernel
theorem dX11_kept_165 : decode cX11_kept 165 = .ok (.iconst 2, 1) := by decide +kernel
theorem dX11_kept_166 : decode cX11_kept 166 = .ok (.iload_n 3, 1) := by decide +kernel
theorem dX11_kept_167 : decode cX11_kept 167 = .ok (.iload 4, 2) := by decide +kernel
theorem dX11_kept_169 : decode cX11_kept 169 = .ok (.iload_n 2, 1) := by decide +kernel
theorem dX11_kept_170 : decode cX11_kept 170 = .ok (.invokestatic 204, 3) := by decide +kernel
theorem dX11_kept_173 : decode cX11_kept 173 = .ok (.ireturn, 1) := by decide +kernel
theorem dX11_kept_174 : decode cX11_kept 174 = .ok (.iinc 4 1, 3) := by decide +kernel
theorem dX11_kept_177 : decode cX11_kept 177 = .ok (.goto (-54), 3) := by decide +kernel
theorem dX11_kept_180 : decode cX11_kept 180 = .ok (.iinc 3 1, 3) := by decide +kernel
theorem dX11_kept_183 : decode cX11_kept 183 = .ok (.goto (-71), 3) := by decide +kernel
theorem dX11_kept_186 : decode cX11_kept 186 = .ok (.iconst (-1), 1) := by decide +kernel
theorem dX11_kept_187 : decode cX11_kept 187 = .ok (.ireturn, 1) := by decide +kernel
theorem dX11_areWords_0 : decode cX11_areWords 0 = .ok (.iload_n 0, 1) := by decide +kernel
theorem dX11_areWords_1 : decode cX11_areWords 1 = .ok (.i2l, 1) := by decide +kernel
theorem dX11_areWords_2 : decode cX11_areWords 2 = .ok (.lconst 1, 1) := by decide +kernel
theorem dX11_areWords_3 : decode cX11_areWords 3 = .ok (.ldc2_w 128, 3) := by decide +kernel
theorem dX11_areWords_6 : decode cX11_areWords 6 = .ok (.invokestatic 70, 3) := by decide +kernel
theorem dX11_areWords_9 : decode cX11_areWords 9 = .ok (.ifCond .eq 19, 3) := by decide +kernel
theorem dX11_areWords_12 : decode cX11_areWords 12 = .ok (.iload_n 1, 1) := by decide +kernel
theorem dX11_areWords_13 : decode cX11_areWords 13 = .ok (.i2l, 1) := by decide +kernel
theorem dX11_areWords_14 : decode cX11_areWords 14 = .ok (.lconst 0, 1) := by decide +kernel
theorem dX11_areWords_15 : decode cX11_areWords 15 = .ok (.ldc2_w 207, 3) := by decide +kernel
theorem dX11_areWords_18 : decode cX11_areWords 18 = .ok (.invokestatic 70, 3) := by decide +kernel
theorem dX11_areWords_21 : decode cX11_areWords 21 = .ok (.ifCond .eq 7, 3) := by decide +kernel
theorem dX11_areWords_24 : decode cX11_areWords 24 = .ok (.iconst 1, 1) := by decide +kernel
theorem dX11_areWords_25 : decode cX11_areWords 25 = .ok (.goto 4, 3) := by decide +kernel
theorem dX11_areWords_28 : decode cX11_areWords 28 = .ok (.iconst 0, 1) := by decide +kernel
theorem dX11_areWords_29 : decode cX11_areWords 29 = .ok (.ireturn, 1) := by decide +kernel
theorem dX11_ones_0 : decode cX11_ones 0 = .ok (.iconst 0, 1) := by decide +kernel
theorem dX11_ones_1 : decode cX11_ones 1 = .ok (.istore_n 1, 1) := by decide +kernel
theorem dX11_ones_2 : decode cX11_ones 2 = .ok (.iconst 0, 1) := by decide +kernel
theorem dX11_ones_3 : decode cX11_ones 3 = .ok (.istore_n 2, 1) := by decide +kernel
theorem dX11_ones_4 : decode cX11_ones 4 = .ok (.iload_n 2, 1) := by decide +kernel
theorem dX11_ones_5 : decode cX11_ones 5 = .ok (.bipush 16, 2) := by decide +kernel
theorem dX11_ones_7 : decode cX11_ones 7 = .ok (.if_icmp .ge 17, 3) := by decide +kernel
theorem dX11_ones_10 : decode cX11_ones 10 = .ok (.iload_n 1, 1) := by decide +kernel
theorem dX11_ones_11 : decode cX11_ones 11 = .ok (.iload_n 0, 1) := by decide +kernel
theorem dX11_ones_12 : decode cX11_ones 12 = .ok (.iload_n 2, 1) := by decide +kernel
theorem dX11_ones_13 : decode cX11_ones 13 = .ok (.ishr, 1) := by decide +kernel
theorem dX11_ones_14 : decode cX11_ones 14 = .ok (.iconst 1, 1) := by decide +kernel
theorem dX11_ones_15 : decode cX11_ones 15 = .ok (.iand, 1) := by decide +kernel
theorem dX11_ones_16 : decode cX11_ones 16 = .ok (.iadd, 1) := by decide +kernel
theorem dX11_ones_17 : decode cX11_ones 17 = .ok (.istore_n 1, 1) := by decide +kernel
theorem dX11_ones_18 : decode cX11_ones 18 = .ok (.iinc 2 1, 3) := by decide +kernel
theorem dX11_ones_21 : decode cX11_ones 21 = .ok (.goto (-17), 3) := by decide +kernel
theorem dX11_ones_24 : decode cX11_ones 24 = .ok (.iload_n 1, 1) := by decide +kernel
theorem dX11_ones_25 : decode cX11_ones 25 = .ok (.ireturn, 1) := by decide +kernel
theorem dX11_manyWords_0 : decode cX11_manyWords 0 = .ok (.iconst 0, 1) := by decide +kernel
theorem dX11_manyWords_1 : decode cX11_manyWords 1 = .ok (.istore_n 3, 1) := by decide +kernel
theorem dX11_manyWords_2 : decode cX11_manyWords 2 = .ok (.iconst 0, 1) := by decide +kernel
theorem dX11_manyWords_3 : decode cX11_manyWords 3 = .ok (.istore 4, 2) := by decide +kernel
theorem dX11_manyWords_5 : decode cX11_manyWords 5 = .ok (.iload 4, 2) := by decide +kernel
theorem dX11_manyWords_7 : decode cX11_manyWords 7 = .ok (.iconst 1, 1) := by decide +kernel
theorem dX11_manyWords_8 : decode cX11_manyWords 8 = .ok (.iload_n 0, 1) := by decide +kernel
theorem dX11_manyWords_9 : decode cX11_manyWords 9 = .ok (.ishl, 1) := by decide +kernel
theorem dX11_manyWords_10 : decode cX11_manyWords 10 = .ok (.if_icmp .ge 55, 3) := by decide +kernel
theorem dX11_manyWords_13 : decode cX11_manyWords 13 = .ok (.iconst 1, 1) := by decide +kernel
theorem dX11_manyWords_14 : decode cX11_manyWords 14 = .ok (.istore 5, 2) := by decide +kernel
theorem dX11_manyWords_16 : decode cX11_manyWords 16 = .ok (.iconst 0, 1) := by decide +kernel
theorem dX11_manyWords_17 : decode cX11_manyWords 17 = .ok (.istore 6, 2) := by decide +kernel
theorem dX11_manyWords_19 : decode cX11_manyWords 19 = .ok (.iload 6, 2) := by decide +kernel
theorem dX11_manyWords_21 : decode cX11_manyWords 21 = .ok (.iload 4, 2) := by decide +kernel
theorem dX11_manyWords_23 : decode cX11_manyWords 23 = .ok (.invokestatic 209, 3) := by decide +kernel
theorem dX11_manyWords_26 : decode cX11_manyWords 26 = .ok (.if_icmp .ge 15, 3) := by decide +kernel
theorem dX11_manyWords_29 : decode cX11_manyWords 29 = .ok (.iload 5, 2) := by decide +kernel
theorem dX11_manyWords_31 : decode cX11_manyWords 31 = .ok (.iload_n 1, 1) := by decide +kernel
theorem dX11_manyWords_32 : decode cX11_manyWords 32 = .ok (.imul, 1) := by decide +kernel
theorem dX11_manyWords_33 : decode cX11_manyWords 33 = .ok (.istore 5, 2) := by decide +kernel
theorem dX11_manyWords_35 : decode cX11_manyWords 35 = .ok (.iinc 6 1, 3) := by decide +kernel
theorem dX11_manyWords_38 : decode cX11_manyWords 38 = .ok (.goto (-19), 3) := by decide +kernel
theorem dX11_manyWords_41 : decode cX11_manyWords 41 = .ok (.iload_n 3, 1) := by decide +kernel
theorem dX11_manyWords_42 : decode cX11_manyWords 42 = .ok (.iload 4, 2) := by decide +kernel
theorem dX11_manyWords_44 : decode cX11_manyWords 44 = .ok (.invokestatic 209, 3) := by decide +kernel
theorem dX11_manyWords_47 : decode cX11_manyWords 47 = .ok (.iload_n 2, 1) := by decide +kernel
theorem dX11_manyWords_48 : decode cX11_manyWords 48 = .ok (.if_icmp .gt 8, 3) := by decide +kernel
theorem dX11_manyWords_51 : decode cX11_manyWords 51 = .ok (.iload 5, 2) := by decide +kernel
theorem dX11_manyWords_53 : decode cX11_manyWords 53 = .ok (.goto 4, 3) := by decide +kernel
theorem dX11_manyWords_56 : decode cX11_manyWords 56 = .ok (.iconst 0, 1) := by decide +kernel
theorem dX11_manyWords_57 : decode cX11_manyWords 57 = .ok (.iadd, 1) := by decide +kernel
theorem dX11_manyWords_58 : decode cX11_manyWords 58 = .ok (.istore_n 3, 1) := by decide +kernel
theorem dX11_manyWords_59 : decode cX11_manyWords 59 = .ok (.iinc 4 1, 3) := by decide +kernel
theorem dX11_manyWords_62 : decode cX11_manyWords 62 = .ok (.goto (-57), 3) := by decide +kernel
theorem dX11_manyWords_65 : decode cX11_manyWords 65 = .ok (.iload_n 3, 1) := by decide +kernel
theorem dX11_manyWords_66 : decode cX11_manyWords 66 = .ok (.ireturn, 1) := by decide +kernel
theorem dX11_words_0 : decode cX11_words 0 = .ok (.iload_n 1, 1) := by decide +kernel
theorem dX11_words_1 : decode cX11_words 1 = .ok (.i2l, 1) := by decide +kernel
theorem dX11_words_2 : decode cX11_words 2 = .ok (.lconst 1, 1) := by decide +kernel
theorem dX11_words_3 : decode cX11_words 3 = .ok (.ldc2_w 207, 3) := by decide +kernel
theorem dX11_words_6 : decode cX11_words 6 = .ok (.invokestatic 70, 3) := by decide +kernel
theorem dX11_words_9 : decode cX11_words 9 = .ok (.ifCond .eq 20, 3) := by decide +kernel
theorem dX11_words_12 : decode cX11_words 12 = .ok (.iload_n 2, 1) := by decide +kernel
theorem dX11_words_13 : decode cX11_words 13 = .ok (.iload_n 3, 1) := by decide +kernel
theorem dX11_words_14 : decode cX11_words 14 = .ok (.invokestatic 213, 3) := by decide +kernel
theorem dX11_words_17 : decode cX11_words 17 = .ok (.ifCond .eq 12, 3) := by decide +kernel
theorem dX11_words_20 : decode cX11_words 20 = .ok (.iload_n 1, 1) := by decide +kernel
theorem dX11_words_21 : decode cX11_words 21 = .ok (.iload_n 2, 1) := by decide +kernel
theorem dX11_words_22 : decode cX11_words 22 = .ok (.iload_n 3, 1) := by decide +kernel
theorem dX11_words_23 : decode cX11_words 23 = .ok (.invokestatic 216, 3) := by decide +kernel
theorem dX11_words_26 : decode cX11_words 26 = .ok (.goto 5, 3) := by decide +kernel
theorem dX11_words_29 : decode cX11_words 29 = .ok (.bipush (-102), 2) := by decide +kernel
theorem dX11_words_31 : decode cX11_words 31 = .ok (.ireturn, 1) := by decide +kernel
theorem dX11_least_0 : decode cX11_least 0 = .ok (.iload_n 1, 1) := by decide +kernel
theorem dX11_least_1 : decode cX11_least 1 = .ok (.i2l, 1) := by decide +kernel
theorem dX11_least_2 : decode cX11_least 2 = .ok (.lconst 1, 1) := by decide +kernel
theorem dX11_least_3 : decode cX11_least 3 = .ok (.ldc2_w 220, 3) := by decide +kernel
theorem dX11_least_6 : decode cX11_least 6 = .ok (.invokestatic 70, 3) := by decide +kernel
theorem dX11_least_9 : decode cX11_least 9 = .ok (.ifCond .eq 11, 3) := by decide +kernel
theorem dX11_least_12 : decode cX11_least 12 = .ok (.iload_n 2, 1) := by decide +kernel
theorem dX11_least_13 : decode cX11_least 13 = .ok (.iload_n 3, 1) := by decide +kernel
theorem dX11_least_14 : decode cX11_least 14 = .ok (.invokestatic 213, 3) := by decide +kernel
theorem dX11_least_17 : decode cX11_least 17 = .ok (.ifCond .ne 6, 3) := by decide +kernel
theorem dX11_least_20 : decode cX11_least 20 = .ok (.bipush (-102), 2) := by decide +kernel
theorem dX11_least_22 : decode cX11_least 22 = .ok (.ireturn, 1) := by decide +kernel
theorem dX11_least_23 : decode cX11_least 23 = .ok (.iconst 1, 1) := by decide +kernel
theorem dX11_least_24 : decode cX11_least 24 = .ok (.istore 4, 2) := by decide +kernel
theorem dX11_least_26 : decode cX11_least 26 = .ok (.iload 4, 2) := by decide +kernel
theorem dX11_least_28 : decode cX11_least 28 = .ok (.bipush 9, 2) := by decide +kernel
theorem dX11_least_30 : decode cX11_least 30 = .ok (.if_icmp .ge 23, 3) := by decide +kernel
theorem dX11_least_33 : decode cX11_least 33 = .ok (.iload 4, 2) := by decide +kernel
theorem dX11_least_35 : decode cX11_least 35 = .ok (.iload_n 2, 1) := by decide +kernel
theorem dX11_least_36 : decode cX11_least 36 = .ok (.iload_n 3, 1) := by decide +kernel
theorem dX11_least_37 : decode cX11_least 37 = .ok (.invokestatic 216, 3) := by decide +kernel
theorem dX11_least_40 : decode cX11_least 40 = .ok (.iload_n 1, 1) := by decide +kernel
theorem dX11_least_41 : decode cX11_least 41 = .ok (.if_icmp .lt 6, 3) := by decide +kernel
theorem dX11_least_44 : decode cX11_least 44 = .ok (.iload 4, 2) := by decide +kernel
theorem dX11_least_46 : decode cX11_least 46 = .ok (.ireturn, 1) := by decide +kernel
theorem dX11_least_47 : decode cX11_least 47 = .ok (.iinc 4 1, 3) := by decide +kernel
theorem dX11_least_50 : decode cX11_least 50 = .ok (.goto (-24), 3) := by decide +kernel
theorem dX11_least_53 : decode cX11_least 53 = .ok (.iconst (-1), 1) := by decide +kernel
theorem dX11_least_54 : decode cX11_least 54 = .ok (.ireturn, 1) := by decide +kernel
theorem dX11_missed_0 : decode cX11_missed 0 = .ok (.iload_n 1, 1) := by decide +kernel
theorem dX11_missed_1 : decode cX11_missed 1 = .ok (.i2l, 1) := by decide +kernel
theorem dX11_missed_2 : decode cX11_missed 2 = .ok (.lconst 1, 1) := by decide +kernel
theorem dX11_missed_3 : decode cX11_missed 3 = .ok (.ldc2_w 195, 3) := by decide +kernel
theorem dX11_missed_6 : decode cX11_missed 6 = .ok (.invokestatic 70, 3) := by decide +kernel
theorem dX11_missed_9 : decode cX11_missed 9 = .ok (.ifCond .eq 22, 3) := by decide +kernel
theorem dX11_missed_12 : decode cX11_missed 12 = .ok (.iload_n 2, 1) := by decide +kernel
theorem dX11_missed_13 : decode cX11_missed 13 = .ok (.i2l, 1) := by decide +kernel
theorem dX11_missed_14 : decode cX11_missed 14 = .ok (.lconst 0, 1) := by decide +kernel
theorem dX11_missed_15 : decode cX11_missed 15 = .ok (.ldc2_w 195, 3) := by decide +kernel
theorem dX11_missed_18 : decode cX11_missed 18 = .ok (.invokestatic 70, 3) := by decide +kernel
theorem dX11_missed_21 : decode cX11_missed 21 = .ok (.ifCond .eq 10, 3) := by decide +kernel
theorem dX11_missed_24 : decode cX11_missed 24 = .ok (.iload_n 3, 1) := by decide +kernel
theorem dX11_missed_25 : decode cX11_missed 25 = .ok (.invokestatic 157, 3) := by decide +kernel
theorem dX11_missed_28 : decode cX11_missed 28 = .ok (.ifCond .ne 6, 3) := by decide +kernel
theorem dX11_missed_31 : decode cX11_missed 31 = .ok (.bipush (-102), 2) := by decide +kernel
theorem dX11_missed_33 : decode cX11_missed 33 = .ok (.ireturn, 1) := by decide +kernel
theorem dX11_missed_34 : decode cX11_missed 34 = .ok (.iconst 1, 1) := by decide +kernel
theorem dX11_missed_35 : decode cX11_missed 35 = .ok (.iload_n 1, 1) := by decide +kernel
theorem dX11_missed_36 : decode cX11_missed 36 = .ok (.ishl, 1) := by decide +kernel
theorem dX11_missed_37 : decode cX11_missed 37 = .ok (.istore 4, 2) := by decide +kernel
theorem dX11_missed_39 : decode cX11_missed 39 = .ok (.iconst 0, 1) := by decide +kernel
theorem dX11_missed_40 : decode cX11_missed 40 = .ok (.istore 5, 2) := by decide +kernel
theorem dX11_missed_42 : decode cX11_missed 42 = .ok (.iload 5, 2) := by decide +kernel
theorem dX11_missed_44 : decode cX11_missed 44 = .ok (.iload 4, 2) := by decide +kernel
theorem dX11_missed_46 : decode cX11_missed 46 = .ok (.if_icmp .ge 98, 3) := by decide +kernel
theorem dX11_missed_49 : decode cX11_missed 49 = .ok (.aload_n 0, 1) := by decide +kernel
theorem dX11_missed_50 : decode cX11_missed 50 = .ok (.getfield 34, 3) := by decide +kernel
theorem dX11_missed_53 : decode cX11_missed 53 = .ok (.iload 5, 2) := by decide +kernel
theorem dX11_missed_55 : decode cX11_missed 55 = .ok (.iconst 0, 1) := by decide +kernel
theorem dX11_missed_56 : decode cX11_missed 56 = .ok (.iastore, 1) := by decide +kernel
theorem dX11_missed_57 : decode cX11_missed 57 = .ok (.iconst 0, 1) := by decide +kernel
theorem dX11_missed_58 : decode cX11_missed 58 = .ok (.istore 6, 2) := by decide +kernel
theorem dX11_missed_60 : decode cX11_missed 60 = .ok (.iload 6, 2) := by decide +kernel
theorem dX11_missed_62 : decode cX11_missed 62 = .ok (.iload 4, 2) := by decide +kernel
theorem dX11_missed_64 : decode cX11_missed 64 = .ok (.if_icmp .ge 74, 3) := by decide +kernel
theorem dX11_missed_67 : decode cX11_missed 67 = .ok (.iload 5, 2) := by decide +kernel
theorem dX11_missed_69 : decode cX11_missed 69 = .ok (.iload 6, 2) := by decide +kernel
theorem dX11_missed_71 : decode cX11_missed 71 = .ok (.if_icmp .eq 35, 3) := by decide +kernel
theorem dX11_missed_74 : decode cX11_missed 74 = .ok (.iload 5, 2) := by decide +kernel
theorem dX11_missed_76 : decode cX11_missed 76 = .ok (.iload 6, 2) := by decide +kernel
theorem dX11_missed_78 : decode cX11_missed 78 = .ok (.iconst (-1), 1) := by decide +kernel
theorem dX11_missed_79 : decode cX11_missed 79 = .ok (.ixor, 1) := by decide +kernel
theorem dX11_missed_80 : decode cX11_missed 80 = .ok (.iand, 1) := by decide +kernel
theorem dX11_missed_81 : decode cX11_missed 81 = .ok (.invokestatic 209, 3) := by decide +kernel
theorem dX11_missed_84 : decode cX11_missed 84 = .ok (.iload_n 2, 1) := by decide +kernel
theorem dX11_missed_85 : decode cX11_missed 85 = .ok (.if_icmp .gt 21, 3) := by decide +kernel
theorem dX11_missed_88 : decode cX11_missed 88 = .ok (.iload 6, 2) := by decide +kernel
theorem dX11_missed_90 : decode cX11_missed 90 = .ok (.iload 5, 2) := by decide +kernel
theorem dX11_missed_92 : decode cX11_missed 92 = .ok (.iconst (-1), 1) := by decide +kernel
theorem dX11_missed_93 : decode cX11_missed 93 = .ok (.ixor, 1) := by decide +kernel
theorem dX11_missed_94 : decode cX11_missed 94 = .ok (.iand, 1) := by decide +kernel
theorem dX11_missed_95 : decode cX11_missed 95 = .ok (.invokestatic 209, 3) := by decide +kernel
theorem dX11_missed_98 : decode cX11_missed 98 = .ok (.iload_n 2, 1) := by decide +kernel
theorem dX11_missed_99 : decode cX11_missed 99 = .ok (.if_icmp .gt 7, 3) := by decide +kernel
theorem dX11_missed_102 : decode cX11_missed 102 = .ok (.iconst 1, 1) := by decide +kernel
theorem dX11_missed_103 : decode cX11_missed 103 = .ok (.goto 4, 3) := by decide +kernel
theorem dX11_missed_106 : decode cX11_missed 106 = .ok (.iconst 0, 1) := by decide +kernel
theorem dX11_missed_107 : decode cX11_missed 107 = .ok (.istore 7, 2) := by decide +kernel
theorem dX11_missed_109 : decode cX11_missed 109 = .ok (.aload_n 0, 1) := by decide +kernel
theorem dX11_missed_110 : decode cX11_missed 110 = .ok (.getfield 34, 3) := by decide +kernel
theorem dX11_missed_113 : decode cX11_missed 113 = .ok (.iload 5, 2) := by decide +kernel
theorem dX11_missed_115 : decode cX11_missed 115 = .ok (.dup2, 1) := by decide +kernel
theorem dX11_missed_116 : decode cX11_missed 116 = .ok (.iaload, 1) := by decide +kernel
theorem dX11_missed_117 : decode cX11_missed 117 = .ok (.iload 7, 2) := by decide +kernel
theorem dX11_missed_119 : decode cX11_missed 119 = .ok (.ifCond .eq 10, 3) := by decide +kernel
theorem dX11_missed_122 : decode cX11_missed 122 = .ok (.iconst 1, 1) := by decide +kernel
theorem dX11_missed_123 : decode cX11_missed 123 = .ok (.iload 6, 2) := by decide +kernel
theorem dX11_missed_125 : decode cX11_missed 125 = .ok (.ishl, 1) := by decide +kernel
theorem dX11_missed_126 : decode cX11_missed 126 = .ok (.goto 4, 3) := by decide +kernel
theorem dX11_missed_129 : decode cX11_missed 129 = .ok (.iconst 0, 1) := by decide +kernel
theorem dX11_missed_130 : decode cX11_missed 130 = .ok (.ior, 1) := by decide +kernel
theorem dX11_missed_131 : decode cX11_missed 131 = .ok (.iastore, 1) := by decide +kernel
theorem dX11_missed_132 : decode cX11_missed 132 = .ok (.iinc 6 1, 3) := by decide +kernel
theorem dX11_missed_135 : decode cX11_missed 135 = .ok (.goto (-75), 3) := by decide +kernel
theorem dX11_missed_138 : decode cX11_missed 138 = .ok (.iinc 5 1, 3) := by decide +kernel
theorem dX11_missed_141 : decode cX11_missed 141 = .ok (.goto (-99), 3) := by decide +kernel
theorem dX11_missed_144 : decode cX11_missed 144 = .ok (.iconst 0, 1) := by decide +kernel
theorem dX11_missed_145 : decode cX11_missed 145 = .ok (.istore 5, 2) := by decide +kernel
theorem dX11_missed_147 : decode cX11_missed 147 = .ok (.iconst 1, 1) := by decide +kernel
theorem dX11_missed_148 : decode cX11_missed 148 = .ok (.istore 6, 2) := by decide +kernel
theorem dX11_missed_150 : decode cX11_missed 150 = .ok (.iload 6, 2) := by decide +kernel
theorem dX11_missed_152 : decode cX11_missed 152 = .ok (.iconst 1, 1) := by decide +kernel
theorem dX11_missed_153 : decode cX11_missed 153 = .ok (.iload 4, 2) := by decide +kernel
theorem dX11_missed_155 : decode cX11_missed 155 = .ok (.ishl, 1) := by decide +kernel
theorem dX11_missed_156 : decode cX11_missed 156 = .ok (.if_icmp .ge 94, 3) := by decide +kernel
theorem dX11_missed_159 : decode cX11_missed 159 = .ok (.iload 6, 2) := by decide +kernel
theorem dX11_missed_161 : decode cX11_missed 161 = .ok (.invokestatic 209, 3) := by decide +kernel
theorem dX11_missed_164 : decode cX11_missed 164 = .ok (.iload 5, 2) := by decide +kernel
theorem dX11_missed_166 : decode cX11_missed 166 = .ok (.invokestatic 209, 3) := by decide +kernel
theorem dX11_missed_169 : decode cX11_missed 169 = .ok (.if_icmp .le 7, 3) := by decide +kernel
theorem dX11_missed_172 : decode cX11_missed 172 = .ok (.iconst 1, 1) := by decide +kernel
theorem dX11_missed_173 : decode cX11_missed 173 = .ok (.goto 4, 3) := by decide +kernel
theorem dX11_missed_176 : decode cX11_missed 176 = .ok (.iconst 0, 1) := by decide +kernel
theorem dX11_missed_177 : decode cX11_missed 177 = .ok (.istore 7, 2) := by decide +kernel
theorem dX11_missed_179 : decode cX11_missed 179 = .ok (.iconst 0, 1) := by decide +kernel
theorem dX11_missed_180 : decode cX11_missed 180 = .ok (.istore 8, 2) := by decide +kernel
theorem dX11_missed_182 : decode cX11_missed 182 = .ok (.iload 8, 2) := by decide +kernel
theorem dX11_missed_184 : decode cX11_missed 184 = .ok (.iload 4, 2) := by decide +kernel
theorem dX11_missed_186 : decode cX11_missed 186 = .ok (.if_icmp .ge 44, 3) := by decide +kernel
theorem dX11_missed_189 : decode cX11_missed 189 = .ok (.iload 7, 2) := by decide +kernel
theorem dX11_missed_191 : decode cX11_missed 191 = .ok (.ifCond .eq 39, 3) := by decide +kernel
theorem dX11_missed_194 : decode cX11_missed 194 = .ok (.iload 6, 2) := by decide +kernel
theorem dX11_missed_196 : decode cX11_missed 196 = .ok (.iload 8, 2) := by decide +kernel
theorem dX11_missed_198 : decode cX11_missed 198 = .ok (.ishr, 1) := by decide +kernel
theorem dX11_missed_199 : decode cX11_missed 199 = .ok (.iconst 1, 1) := by decide +kernel
theorem dX11_missed_200 : decode cX11_missed 200 = .ok (.iand, 1) := by decide +kernel
theorem dX11_missed_201 : decode cX11_missed 201 = .ok (.ifCond .eq 16, 3) := by decide +kernel
theorem dX11_missed_204 : decode cX11_missed 204 = .ok (.iload 6, 2) := by decide +kernel
theorem dX11_missed_206 : decode cX11_missed 206 = .ok (.aload_n 0, 1) := by decide +kernel
theorem dX11_missed_207 : decode cX11_missed 207 = .ok (.getfield 34, 3) := by decide +kernel
theorem dX11_missed_210 : decode cX11_missed 210 = .ok (.iload 8, 2) := by decide +kernel
theorem dX11_missed_212 : decode cX11_missed 212 = .ok (.iaload, 1) := by decide +kernel
theorem dX11_missed_213 : decode cX11_missed 213 = .ok (.iand, 1) := by decide +kernel
theorem dX11_missed_214 : decode cX11_missed 214 = .ok (.ifCond .ne 7, 3) := by decide +kernel
theorem dX11_missed_217 : decode cX11_missed 217 = .ok (.iconst 1, 1) := by decide +kernel
theorem dX11_missed_218 : decode cX11_missed 218 = .ok (.goto 4, 3) := by decide +kernel
theorem dX11_missed_221 : decode cX11_missed 221 = .ok (.iconst 0, 1) := by decide +kernel
theorem dX11_missed_222 : decode cX11_missed 222 = .ok (.istore 7, 2) := by decide +kernel
theorem dX11_missed_224 : decode cX11_missed 224 = .ok (.iinc 8 1, 3) := by decide +kernel
theorem dX11_missed_227 : decode cX11_missed 227 = .ok (.goto (-45), 3) := by decide +kernel
theorem dX11_missed_230 : decode cX11_missed 230 = .ok (.iload 7, 2) := by decide +kernel
theorem dX11_missed_232 : decode cX11_missed 232 = .ok (.ifCond .eq 8, 3) := by decide +kernel
theorem dX11_missed_235 : decode cX11_missed 235 = .ok (.iload 6, 2) := by decide +kernel
theorem dX11_missed_237 : decode cX11_missed 237 = .ok (.goto 5, 3) := by decide +kernel
theorem dX11_missed_240 : decode cX11_missed 240 = .ok (.iload 5, 2) := by decide +kernel
theorem dX11_missed_242 : decode cX11_missed 242 = .ok (.istore 5, 2) := by decide +kernel
theorem dX11_missed_244 : decode cX11_missed 244 = .ok (.iinc 6 1, 3) := by decide +kernel
theorem dX11_missed_247 : decode cX11_missed 247 = .ok (.goto (-97), 3) := by decide +kernel
theorem dX11_missed_250 : decode cX11_missed 250 = .ok (.iload_n 3, 1) := by decide +kernel
theorem dX11_missed_251 : decode cX11_missed 251 = .ok (.ifCond .ne 11, 3) := by decide +kernel
theorem dX11_missed_254 : decode cX11_missed 254 = .ok (.iload 5, 2) := by decide +kernel
theorem dX11_missed_256 : decode cX11_missed 256 = .ok (.invokestatic 209, 3) := by decide +kernel
theorem dX11_missed_259 : decode cX11_missed 259 = .ok (.goto 5, 3) := by decide +kernel
theorem dX11_missed_262 : decode cX11_missed 262 = .ok (.iload 5, 2) := by decide +kernel
theorem dX11_missed_264 : decode cX11_missed 264 = .ok (.ireturn, 1) := by decide +kernel
theorem dX11_book_0 : decode cX11_book 0 = .ok (.iload_n 1, 1) := by decide +kernel
theorem dX11_book_1 : decode cX11_book 1 = .ok (.i2l, 1) := by decide +kernel
theorem dX11_book_2 : decode cX11_book 2 = .ok (.lconst 0, 1) := by decide +kernel
theorem dX11_book_3 : decode cX11_book 3 = .ok (.ldc2_w 85, 3) := by decide +kernel
theorem dX11_book_6 : decode cX11_book 6 = .ok (.invokestatic 70, 3) := by decide +kernel
theorem dX11_book_9 : decode cX11_book 9 = .ok (.ifCond .ne 6, 3) := by decide +kernel
theorem dX11_book_12 : decode cX11_book 12 = .ok (.bipush (-102), 2) := by decide +kernel
theorem dX11_book_14 : decode cX11_book 14 = .ok (.ireturn, 1) := by decide +kernel
theorem dX11_book_15 : decode cX11_book 15 = .ok (.iconst 0, 1) := by decide +kernel
theorem dX11_book_16 : decode cX11_book 16 = .ok (.istore_n 2, 1) := by decide +kernel
theorem dX11_book_17 : decode cX11_book 17 = .ok (.iload_n 2, 1) := by decide +kernel
theorem dX11_book_18 : decode cX11_book 18 = .ok (.aload_n 0, 1) := by decide +kernel
theorem dX11_book_19 : decode cX11_book 19 = .ok (.getfield 222, 3) := by decide +kernel
theorem dX11_book_22 : decode cX11_book 22 = .ok (.if_icmp .ge 22, 3) := by decide +kernel
theorem dX11_book_25 : decode cX11_book 25 = .ok (.aload_n 0, 1) := by decide +kernel
theorem dX11_book_26 : decode cX11_book 26 = .ok (.getfield 37, 3) := by decide +kernel
theorem dX11_book_29 : decode cX11_book 29 = .ok (.iload_n 2, 1) := by decide +kernel
theorem dX11_book_30 : decode cX11_book 30 = .ok (.iaload, 1) := by decide +kernel
theorem dX11_book_31 : decode cX11_book 31 = .ok (.iload_n 1, 1) := by decide +kernel
theorem dX11_book_32 : decode cX11_book 32 = .ok (.if_icmp .ne 6, 3) := by decide +kernel
theorem dX11_book_35 : decode cX11_book 35 = .ok (.bipush (-103), 2) := by decide +kernel
theorem dX11_book_37 : decode cX11_book 37 = .ok (.ireturn, 1) := by decide +kernel
theorem dX11_book_38 : decode cX11_book 38 = .ok (.iinc 2 1, 3) := by decide +kernel
theorem dX11_book_41 : decode cX11_book 41 = .ok (.goto (-24), 3) := by decide +kernel
theorem dX11_book_44 : decode cX11_book 44 = .ok (.aload_n 0, 1) := by decide +kernel
theorem dX11_book_45 : decode cX11_book 45 = .ok (.getfield 222, 3) := by decide +kernel
theorem dX11_book_48 : decode cX11_book 48 = .ok (.iconst 4, 1) := by decide +kernel
theorem dX11_book_49 : decode cX11_book 49 = .ok (.if_icmp .ne 6, 3) := by decide +kernel
theorem dX11_book_52 : decode cX11_book 52 = .ok (.bipush (-104), 2) := by decide +kernel
theorem dX11_book_54 : decode cX11_book 54 = .ok (.ireturn, 1) := by decide +kernel
theorem dX11_book_55 : decode cX11_book 55 = .ok (.aload_n 0, 1) := by decide +kernel
theorem dX11_book_56 : decode cX11_book 56 = .ok (.getfield 37, 3) := by decide +kernel
theorem dX11_book_59 : decode cX11_book 59 = .ok (.aload_n 0, 1) := by decide +kernel
theorem dX11_book_60 : decode cX11_book 60 = .ok (.getfield 222, 3) := by decide +kernel
theorem dX11_book_63 : decode cX11_book 63 = .ok (.iload_n 1, 1) := by decide +kernel
theorem dX11_book_64 : decode cX11_book 64 = .ok (.iastore, 1) := by decide +kernel
theorem dX11_book_65 : decode cX11_book 65 = .ok (.aload_n 0, 1) := by decide +kernel
theorem dX11_book_66 : decode cX11_book 66 = .ok (.dup, 1) := by decide +kernel
theorem dX11_book_67 : decode cX11_book 67 = .ok (.getfield 222, 3) := by decide +kernel
theorem dX11_book_70 : decode cX11_book 70 = .ok (.iconst 1, 1) := by decide +kernel
theorem dX11_book_71 : decode cX11_book 71 = .ok (.iadd, 1) := by decide +kernel
theorem dX11_book_72 : decode cX11_book 72 = .ok (.putfield 222, 3) := by decide +kernel
theorem dX11_book_75 : decode cX11_book 75 = .ok (.aload_n 0, 1) := by decide +kernel
theorem dX11_book_76 : decode cX11_book 76 = .ok (.getfield 222, 3) := by decide +kernel
theorem dX11_book_79 : decode cX11_book 79 = .ok (.ireturn, 1) := by decide +kernel
theorem dX11_likely_0 : decode cX11_likely 0 = .ok (.iload_n 1, 1) := by decide +kernel
theorem dX11_likely_1 : decode cX11_likely 1 = .ok (.iload_n 0, 1) := by decide +kernel
theorem dX11_likely_2 : decode cX11_likely 2 = .ok (.iconst (-1), 1) := by decide +kernel
theorem dX11_likely_3 : decode cX11_likely 3 = .ok (.ixor, 1) := by decide +kernel
theorem dX11_likely_4 : decode cX11_likely 4 = .ok (.iand, 1) := by decide +kernel
theorem dX11_likely_5 : decode cX11_likely 5 = .ok (.ifCond .eq 5, 3) := by decide +kernel
theorem dX11_likely_8 : decode cX11_likely 8 = .ok (.lconst 0, 1) := by decide +kernel
theorem dX11_likely_9 : decode cX11_likely 9 = .ok (.lreturn, 1) := by decide +kernel
theorem dX11_likely_10 : decode cX11_likely 10 = .ok (.lconst 1, 1) := by decide +kernel
theorem dX11_likely_11 : decode cX11_likely 11 = .ok (.lstore_n 3, 1) := by decide +kernel
theorem dX11_likely_12 : decode cX11_likely 12 = .ok (.iconst 0, 1) := by decide +kernel
theorem dX11_likely_13 : decode cX11_likely 13 = .ok (.istore 5, 2) := by decide +kernel
theorem dX11_likely_15 : decode cX11_likely 15 = .ok (.iload 5, 2) := by decide +kernel
theorem dX11_likely_17 : decode cX11_likely 17 = .ok (.bipush 8, 2) := by decide +kernel
theorem dX11_likely_19 : decode cX11_likely 19 = .ok (.if_icmp .ge 48, 3) := by decide +kernel
theorem dX11_likely_22 : decode cX11_likely 22 = .ok (.lload_n 3, 1) := by decide +kernel
theorem dX11_likely_23 : decode cX11_likely 23 = .ok (.iload_n 1, 1) := by decide +kernel
theorem dX11_likely_24 : decode cX11_likely 24 = .ok (.iload 5, 2) := by decide +kernel
theorem dX11_likely_26 : decode cX11_likely 26 = .ok (.ishr, 1) := by decide +kernel
theorem dX11_likely_27 : decode cX11_likely 27 = .ok (.iconst 1, 1) := by decide +kernel
theorem dX11_likely_28 : decode cX11_likely 28 = .ok (.iand, 1) := by decide +kernel
theorem dX11_likely_29 : decode cX11_likely 29 = .ok (.iconst 1, 1) := by decide +kernel
theorem dX11_likely_30 : decode cX11_likely 30 = .ok (.if_icmp .ne 11, 3) := by decide +kernel
theorem dX11_likely_33 : decode cX11_likely 33 = .ok (.bipush 10, 2) := by decide +kernel
theorem dX11_likely_35 : decode cX11_likely 35 = .ok (.iload_n 2, 1) := by decide +kernel
theorem dX11_likely_36 : decode cX11_likely 36 = .ok (.isub, 1) := by decide +kernel
theorem dX11_likely_37 : decode cX11_likely 37 = .ok (.i2l, 1) := by decide +kernel
theorem dX11_likely_38 : decode cX11_likely 38 = .ok (.goto 21, 3) := by decide +kernel
theorem dX11_likely_41 : decode cX11_likely 41 = .ok (.iload_n 0, 1) := by decide +kernel
theorem dX11_likely_42 : decode cX11_likely 42 = .ok (.iload 5, 2) := by decide +kernel
theorem dX11_likely_44 : decode cX11_likely 44 = .ok (.ishr, 1) := by decide +kernel
theorem dX11_likely_45 : decode cX11_likely 45 = .ok (.iconst 1, 1) := by decide +kernel
theorem dX11_likely_46 : decode cX11_likely 46 = .ok (.iand, 1) := by decide +kernel
theorem dX11_likely_47 : decode cX11_likely 47 = .ok (.iconst 1, 1) := by decide +kernel
theorem dX11_likely_48 : decode cX11_likely 48 = .ok (.if_icmp .ne 8, 3) := by decide +kernel
theorem dX11_likely_51 : decode cX11_likely 51 = .ok (.iload_n 2, 1) := by decide +kernel
theorem dX11_likely_52 : decode cX11_likely 52 = .ok (.i2l, 1) := by decide +kernel
theorem dX11_likely_53 : decode cX11_likely 53 = .ok (.goto 6, 3) := by decide +kernel
theorem dX11_likely_56 : decode cX11_likely 56 = .ok (.ldc2_w 166, 3) := by decide +kernel
theorem dX11_likely_59 : decode cX11_likely 59 = .ok (.lmul, 1) := by decide +kernel
theorem dX11_likely_60 : decode cX11_likely 60 = .ok (.lstore_n 3, 1) := by decide +kernel
theorem dX11_likely_61 : decode cX11_likely 61 = .ok (.iinc 5 1, 3) := by decide +kernel
theorem dX11_likely_64 : decode cX11_likely 64 = .ok (.goto (-49), 3) := by decide +kernel
theorem dX11_likely_67 : decode cX11_likely 67 = .ok (.lload_n 3, 1) := by decide +kernel
theorem dX11_likely_68 : decode cX11_likely 68 = .ok (.lreturn, 1) := by decide +kernel
theorem dX11_read_0 : decode cX11_read 0 = .ok (.iload_n 1, 1) := by decide +kernel
theorem dX11_read_1 : decode cX11_read 1 = .ok (.i2l, 1) := by decide +kernel
theorem dX11_read_2 : decode cX11_read 2 = .ok (.lconst 0, 1) := by decide +kernel
theorem dX11_read_3 : decode cX11_read 3 = .ok (.aload_n 0, 1) := by decide +kernel
theorem dX11_read_4 : decode cX11_read 4 = .ok (.getfield 222, 3) := by decide +kernel
theorem dX11_read_7 : decode cX11_read 7 = .ok (.iconst 1, 1) := by decide +kernel
theorem dX11_read_8 : decode cX11_read 8 = .ok (.isub, 1) := by decide +kernel
theorem dX11_read_9 : decode cX11_read 9 = .ok (.i2l, 1) := by decide +kernel
theorem dX11_read_10 : decode cX11_read 10 = .ok (.invokestatic 70, 3) := by decide +kernel
theorem dX11_read_13 : decode cX11_read 13 = .ok (.ifCond .ne 7, 3) := by decide +kernel
theorem dX11_read_16 : decode cX11_read 16 = .ok (.ldc2_w 155, 3) := by decide +kernel
theorem dX11_read_19 : decode cX11_read 19 = .ok (.lreturn, 1) := by decide +kernel
theorem dX11_read_20 : decode cX11_read 20 = .ok (.iload_n 2, 1) := by decide +kernel
theorem dX11_read_21 : decode cX11_read 21 = .ok (.i2l, 1) := by decide +kernel
theorem dX11_read_22 : decode cX11_read 22 = .ok (.lconst 0, 1) := by decide +kernel
theorem dX11_read_23 : decode cX11_read 23 = .ok (.ldc2_w 85, 3) := by decide +kernel
theorem dX11_read_26 : decode cX11_read 26 = .ok (.invokestatic 70, 3) := by decide +kernel
theorem dX11_read_29 : decode cX11_read 29 = .ok (.ifCond .eq 23, 3) := by decide +kernel
theorem dX11_read_32 : decode cX11_read 32 = .ok (.iload_n 3, 1) := by decide +kernel
theorem dX11_read_33 : decode cX11_read 33 = .ok (.i2l, 1) := by decide +kernel
theorem dX11_read_34 : decode cX11_read 34 = .ok (.lconst 0, 1) := by decide +kernel
theorem dX11_read_35 : decode cX11_read 35 = .ok (.ldc2_w 74, 3) := by decide +kernel
theorem dX11_read_38 : decode cX11_read 38 = .ok (.invokestatic 70, 3) := by decide +kernel
theorem dX11_read_41 : decode cX11_read 41 = .ok (.ifCond .eq 11, 3) := by decide +kernel
theorem dX11_read_44 : decode cX11_read 44 = .ok (.iload 4, 2) := by decide +kernel
theorem dX11_read_46 : decode cX11_read 46 = .ok (.invokestatic 157, 3) := by decide +kernel
theorem dX11_read_49 : decode cX11_read 49 = .ok (.ifCond .ne 7, 3) := by decide +kernel
theorem dX11_read_52 : decode cX11_read 52 = .ok (.ldc2_w 160, 3) := by decide +kernel
theorem dX11_read_55 : decode cX11_read 55 = .ok (.lreturn, 1) := by decide +kernel
theorem dX11_read_56 : decode cX11_read 56 = .ok (.lconst 0, 1) := by decide +kernel
theorem dX11_read_57 : decode cX11_read 57 = .ok (.lstore 5, 2) := by decide +kernel
theorem dX11_read_59 : decode cX11_read 59 = .ok (.iconst 0, 1) := by decide +kernel
theorem dX11_read_60 : decode cX11_read 60 = .ok (.istore 7, 2) := by decide +kernel
theorem dX11_read_62 : decode cX11_read 62 = .ok (.iload 7, 2) := by decide +kernel
theorem dX11_read_64 : decode cX11_read 64 = .ok (.aload_n 0, 1) := by decide +kernel
theorem dX11_read_65 : decode cX11_read 65 = .ok (.getfield 222, 3) := by decide +kernel
theorem dX11_read_68 : decode cX11_read 68 = .ok (.if_icmp .ge 26, 3) := by decide +kernel
theorem dX11_read_71 : decode cX11_read 71 = .ok (.lload 5, 2) := by decide +kernel
theorem dX11_read_73 : decode cX11_read 73 = .ok (.aload_n 0, 1) := by decide +kernel
theorem dX11_read_74 : decode cX11_read 74 = .ok (.getfield 37, 3) := by decide +kernel
theorem dX11_read_77 : decode cX11_read 77 = .ok (.iload 7, 2) := by decide +kernel
theorem dX11_read_79 : decode cX11_read 79 = .ok (.iaload, 1) := by decide +kernel
theorem dX11_read_80 : decode cX11_read 80 = .ok (.iload_n 2, 1) := by decide +kernel
theorem dX11_read_81 : decode cX11_read 81 = .ok (.iload_n 3, 1) := by decide +kernel
theorem dX11_read_82 : decode cX11_read 82 = .ok (.invokestatic 225, 3) := by decide +kernel
theorem dX11_read_85 : decode cX11_read 85 = .ok (.ladd, 1) := by decide +kernel
theorem dX11_read_86 : decode cX11_read 86 = .ok (.lstore 5, 2) := by decide +kernel
theorem dX11_read_88 : decode cX11_read 88 = .ok (.iinc 7 1, 3) := by decide +kernel
theorem dX11_read_91 : decode cX11_read 91 = .ok (.goto (-29), 3) := by decide +kernel
theorem dX11_read_94 : decode cX11_read 94 = .ok (.lload 5, 2) := by decide +kernel
theorem dX11_read_96 : decode cX11_read 96 = .ok (.lconst 0, 1) := by decide +kernel
theorem dX11_read_97 : decode cX11_read 97 = .ok (.lcmp, 1) := by decide +kernel
theorem dX11_read_98 : decode cX11_read 98 = .ok (.ifCond .ne 9, 3) := by decide +kernel
theorem dX11_read_101 : decode cX11_read 101 = .ok (.ldc2_w 229, 3) := by decide +kernel
theorem dX11_read_104 : decode cX11_read 104 = .ok (.goto 21, 3) := by decide +kernel
theorem dX11_read_107 : decode cX11_read 107 = .ok (.aload_n 0, 1) := by decide +kernel
theorem dX11_read_108 : decode cX11_read 108 = .ok (.getfield 37, 3) := by decide +kernel
theorem dX11_read_111 : decode cX11_read 111 = .ok (.iload_n 1, 1) := by decide +kernel
theorem dX11_read_112 : decode cX11_read 112 = .ok (.iaload, 1) := by decide +kernel
theorem dX11_read_113 : decode cX11_read 113 = .ok (.iload_n 2, 1) := by decide +kernel
theorem dX11_read_114 : decode cX11_read 114 = .ok (.iload_n 3, 1) := by decide +kernel
theorem dX11_read_115 : decode cX11_read 115 = .ok (.invokestatic 225, 3) := by decide +kernel
theorem dX11_read_118 : decode cX11_read 118 = .ok (.lload 5, 2) := by decide +kernel
theorem dX11_read_120 : decode cX11_read 120 = .ok (.iload 4, 2) := by decide +kernel
theorem dX11_read_122 : decode cX11_read 122 = .ok (.invokestatic 162, 3) := by decide +kernel
theorem dX11_read_125 : decode cX11_read 125 = .ok (.lreturn, 1) := by decide +kernel
theorem dX11_crowd_0 : decode cX11_crowd 0 = .ok (.iload_n 1, 1) := by decide +kernel
theorem dX11_crowd_1 : decode cX11_crowd 1 = .ok (.iconst 2, 1) := by decide +kernel
theorem dX11_crowd_2 : decode cX11_crowd 2 = .ok (.if_icmp .eq 23, 3) := by decide +kernel
theorem dX11_crowd_5 : decode cX11_crowd 5 = .ok (.iload_n 1, 1) := by decide +kernel
theorem dX11_crowd_6 : decode cX11_crowd 6 = .ok (.iconst 4, 1) := by decide +kernel
theorem dX11_crowd_7 : decode cX11_crowd 7 = .ok (.if_icmp .eq 18, 3) := by decide +kernel
theorem dX11_crowd_10 : decode cX11_crowd 10 = .ok (.iload_n 1, 1) := by decide +kernel
theorem dX11_crowd_11 : decode cX11_crowd 11 = .ok (.bipush 6, 2) := by decide +kernel
theorem dX11_crowd_13 : decode cX11_crowd 13 = .ok (.if_icmp .eq 12, 3) := by decide +kernel
theorem dX11_crowd_16 : decode cX11_crowd 16 = .ok (.iload_n 1, 1) := by decide +kernel
theorem dX11_crowd_17 : decode cX11_crowd 17 = .ok (.bipush 8, 2) := by decide +kernel
theorem dX11_crowd_19 : decode cX11_crowd 19 = .ok (.if_icmp .eq 6, 3) := by decide +kernel
theorem dX11_crowd_22 : decode cX11_crowd 22 = .ok (.bipush (-102), 2) := by decide +kernel
theorem dX11_crowd_24 : decode cX11_crowd 24 = .ok (.ireturn, 1) := by decide +kernel
theorem dX11_crowd_25 : decode cX11_crowd 25 = .ok (.aload_n 0, 1) := by decide +kernel
theorem dX11_crowd_26 : decode cX11_crowd 26 = .ok (.getfield 65, 3) := by decide +kernel
theorem dX11_crowd_29 : decode cX11_crowd 29 = .ok (.istore_n 2, 1) := by decide +kernel
theorem dX11_crowd_30 : decode cX11_crowd 30 = .ok (.aload_n 0, 1) := by decide +kernel
theorem dX11_crowd_31 : decode cX11_crowd 31 = .ok (.iload_n 1, 1) := by decide +kernel
theorem dX11_crowd_32 : decode cX11_crowd 32 = .ok (.putfield 65, 3) := by decide +kernel
theorem dX11_crowd_35 : decode cX11_crowd 35 = .ok (.aload_n 0, 1) := by decide +kernel
theorem dX11_crowd_36 : decode cX11_crowd 36 = .ok (.iconst 0, 1) := by decide +kernel
theorem dX11_crowd_37 : decode cX11_crowd 37 = .ok (.putfield 231, 3) := by decide +kernel
theorem dX11_crowd_40 : decode cX11_crowd 40 = .ok (.aload_n 0, 1) := by decide +kernel
theorem dX11_crowd_41 : decode cX11_crowd 41 = .ok (.dup, 1) := by decide +kernel
theorem dX11_crowd_42 : decode cX11_crowd 42 = .ok (.getfield 234, 3) := by decide +kernel
theorem dX11_crowd_45 : decode cX11_crowd 45 = .ok (.iconst 1, 1) := by decide +kernel
theorem dX11_crowd_46 : decode cX11_crowd 46 = .ok (.iadd, 1) := by decide +kernel
theorem dX11_crowd_47 : decode cX11_crowd 47 = .ok (.putfield 234, 3) := by decide +kernel
theorem dX11_crowd_50 : decode cX11_crowd 50 = .ok (.iload_n 2, 1) := by decide +kernel
theorem dX11_crowd_51 : decode cX11_crowd 51 = .ok (.ireturn, 1) := by decide +kernel
theorem dX11_wince_0 : decode cX11_wince 0 = .ok (.iload_n 1, 1) := by decide +kernel
theorem dX11_wince_1 : decode cX11_wince 1 = .ok (.i2l, 1) := by decide +kernel
theorem dX11_wince_2 : decode cX11_wince 2 = .ok (.lconst 0, 1) := by decide +kernel
theorem dX11_wince_3 : decode cX11_wince 3 = .ok (.aload_n 0, 1) := by decide +kernel
theorem dX11_wince_4 : decode cX11_wince 4 = .ok (.getfield 65, 3) := by decide +kernel
theorem dX11_wince_7 : decode cX11_wince 7 = .ok (.iconst 1, 1) := by decide +kernel
theorem dX11_wince_8 : decode cX11_wince 8 = .ok (.isub, 1) := by decide +kernel
theorem dX11_wince_9 : decode cX11_wince 9 = .ok (.i2l, 1) := by decide +kernel
theorem dX11_wince_10 : decode cX11_wince 10 = .ok (.invokestatic 70, 3) := by decide +kernel
theorem dX11_wince_13 : decode cX11_wince 13 = .ok (.ifCond .ne 6, 3) := by decide +kernel
theorem dX11_wince_16 : decode cX11_wince 16 = .ok (.bipush (-101), 2) := by decide +kernel
theorem dX11_wince_18 : decode cX11_wince 18 = .ok (.ireturn, 1) := by decide +kernel
theorem dX11_wince_19 : decode cX11_wince 19 = .ok (.iload_n 2, 1) := by decide +kernel
theorem dX11_wince_20 : decode cX11_wince 20 = .ok (.i2l, 1) := by decide +kernel
theorem dX11_wince_21 : decode cX11_wince 21 = .ok (.lconst 0, 1) := by decide +kernel
theorem dX11_wince_22 : decode cX11_wince 22 = .ok (.iconst 1, 1) := by decide +kernel
theorem dX11_wince_23 : decode cX11_wince 23 = .ok (.aload_n 0, 1) := by decide +kernel
theorem dX11_wince_24 : decode cX11_wince 24 = .ok (.getfield 65, 3) := by decide +kernel
theorem dX11_wince_27 : decode cX11_wince 27 = .ok (.ishl, 1) := by decide +kernel
theorem dX11_wince_28 : decode cX11_wince 28 = .ok (.iconst 1, 1) := by decide +kernel
theorem dX11_wince_29 : decode cX11_wince 29 = .ok (.isub, 1) := by decide +kernel
theorem dX11_wince_30 : decode cX11_wince 30 = .ok (.i2l, 1) := by decide +kernel
theorem dX11_wince_31 : decode cX11_wince 31 = .ok (.invokestatic 70, 3) := by decide +kernel
theorem dX11_wince_34 : decode cX11_wince 34 = .ok (.ifCond .ne 6, 3) := by decide +kernel
theorem dX11_wince_37 : decode cX11_wince 37 = .ok (.bipush (-102), 2) := by decide +kernel
theorem dX11_wince_39 : decode cX11_wince 39 = .ok (.ireturn, 1) := by decide +kernel
theorem dX11_wince_40 : decode cX11_wince 40 = .ok (.aload_n 0, 1) := by decide +kernel
theorem dX11_wince_41 : decode cX11_wince 41 = .ok (.getfield 231, 3) := by decide +kernel
theorem dX11_wince_44 : decode cX11_wince 44 = .ok (.bipush 8, 2) := by decide +kernel
theorem dX11_wince_46 : decode cX11_wince 46 = .ok (.if_icmp .ne 6, 3) := by decide +kernel
theorem dX11_wince_49 : decode cX11_wince 49 = .ok (.bipush (-104), 2) := by decide +kernel
theorem dX11_wince_51 : decode cX11_wince 51 = .ok (.ireturn, 1) := by decide +kernel
theorem dX11_wince_52 : decode cX11_wince 52 = .ok (.aload_n 0, 1) := by decide +kernel
theorem dX11_wince_53 : decode cX11_wince 53 = .ok (.getfield 40, 3) := by decide +kernel
theorem dX11_wince_56 : decode cX11_wince 56 = .ok (.iconst 2, 1) := by decide +kernel
theorem dX11_wince_57 : decode cX11_wince 57 = .ok (.aload_n 0, 1) := by decide +kernel
theorem dX11_wince_58 : decode cX11_wince 58 = .ok (.getfield 231, 3) := by decide +kernel
theorem dX11_wince_61 : decode cX11_wince 61 = .ok (.imul, 1) := by decide +kernel
theorem dX11_wince_62 : decode cX11_wince 62 = .ok (.iload_n 1, 1) := by decide +kernel
theorem dX11_wince_63 : decode cX11_wince 63 = .ok (.iastore, 1) := by decide +kernel
theorem dX11_wince_64 : decode cX11_wince 64 = .ok (.aload_n 0, 1) := by decide +kernel
theorem dX11_wince_65 : decode cX11_wince 65 = .ok (.getfield 40, 3) := by decide +kernel
theorem dX11_wince_68 : decode cX11_wince 68 = .ok (.iconst 2, 1) := by decide +kernel
theorem dX11_wince_69 : decode cX11_wince 69 = .ok (.aload_n 0, 1) := by decide +kernel
theorem dX11_wince_70 : decode cX11_wince 70 = .ok (.getfield 231, 3) := by decide +kernel
theorem dX11_wince_73 : decode cX11_wince 73 = .ok (.imul, 1) := by decide +kernel
theorem dX11_wince_74 : decode cX11_wince 74 = .ok (.iconst 1, 1) := by decide +kernel
theorem dX11_wince_75 : decode cX11_wince 75 = .ok (.iadd, 1) := by decide +kernel
theorem dX11_wince_76 : decode cX11_wince 76 = .ok (.iload_n 2, 1) := by decide +kernel
theorem dX11_wince_77 : decode cX11_wince 77 = .ok (.iastore, 1) := by decide +kernel
theorem dX11_wince_78 : decode cX11_wince 78 = .ok (.aload_n 0, 1) := by decide +kernel
theorem dX11_wince_79 : decode cX11_wince 79 = .ok (.dup, 1) := by decide +kernel
theorem dX11_wince_80 : decode cX11_wince 80 = .ok (.getfield 231, 3) := by decide +kernel
theorem dX11_wince_83 : decode cX11_wince 83 = .ok (.iconst 1, 1) := by decide +kernel
theorem dX11_wince_84 : decode cX11_wince 84 = .ok (.iadd, 1) := by decide +kernel
theorem dX11_wince_85 : decode cX11_wince 85 = .ok (.putfield 231, 3) := by decide +kernel
theorem dX11_wince_88 : decode cX11_wince 88 = .ok (.aload_n 0, 1) := by decide +kernel
theorem dX11_wince_89 : decode cX11_wince 89 = .ok (.getfield 231, 3) := by decide +kernel
theorem dX11_wince_92 : decode cX11_wince 92 = .ok (.ireturn, 1) := by decide +kernel
theorem dX11_layPairing_0 : decode cX11_layPairing 0 = .ok (.iload_n 1, 1) := by decide +kernel
theorem dX11_layPairing_1 : decode cX11_layPairing 1 = .ok (.istore_n 2, 1) := by decide +kernel
theorem dX11_layPairing_2 : decode cX11_layPairing 2 = .ok (.iconst 1, 1) := by decide +kernel
theorem dX11_layPairing_3 : decode cX11_layPairing 3 = .ok (.aload_n 0, 1) := by decide +kernel
theorem dX11_layPairing_4 : decode cX11_layPairing 4 = .ok (.getfield 65, 3) := by decide +kernel
theorem dX11_layPairing_7 : decode cX11_layPairing 7 = .ok (.ishl, 1) := by decide +kernel
theorem dX11_layPairing_8 : decode cX11_layPairing 8 = .ok (.iconst 1, 1) := by decide +kernel
theorem dX11_layPairing_9 : decode cX11_layPairing 9 = .ok (.isub, 1) := by decide +kernel
theorem dX11_layPairing_10 : decode cX11_layPairing 10 = .ok (.istore_n 3, 1) := by decide +kernel
theorem dX11_layPairing_11 : decode cX11_layPairing 11 = .ok (.aload_n 0, 1) := by decide +kernel
theorem dX11_layPairing_12 : decode cX11_layPairing 12 = .ok (.getfield 65, 3) := by decide +kernel
theorem dX11_layPairing_15 : decode cX11_layPairing 15 = .ok (.iconst 1, 1) := by decide +kernel
theorem dX11_layPairing_16 : decode cX11_layPairing 16 = .ok (.isub, 1) := by decide +kernel
theorem dX11_layPairing_17 : decode cX11_layPairing 17 = .ok (.istore 4, 2) := by decide +kernel
theorem dX11_layPairing_19 : decode cX11_layPairing 19 = .ok (.iload 4, 2) := by decide +kernel
theorem dX11_layPairing_21 : decode cX11_layPairing 21 = .ok (.ifCond .le 107, 3) := by decide +kernel
theorem dX11_layPairing_24 : decode cX11_layPairing 24 = .ok (.iconst 0, 1) := by decide +kernel
theorem dX11_layPairing_25 : decode cX11_layPairing 25 = .ok (.istore 5, 2) := by decide +kernel
theorem dX11_layPairing_27 : decode cX11_layPairing 27 = .ok (.iload_n 3, 1) := by decide +kernel
theorem dX11_layPairing_28 : decode cX11_layPairing 28 = .ok (.iload 5, 2) := by decide +kernel
theorem dX11_layPairing_30 : decode cX11_layPairing 30 = .ok (.ishr, 1) := by decide +kernel
theorem dX11_layPairing_31 : decode cX11_layPairing 31 = .ok (.iconst 1, 1) := by decide +kernel
theorem dX11_layPairing_32 : decode cX11_layPairing 32 = .ok (.iand, 1) := by decide +kernel
theorem dX11_layPairing_33 : decode cX11_layPairing 33 = .ok (.ifCond .ne 9, 3) := by decide +kernel
theorem dX11_layPairing_36 : decode cX11_layPairing 36 = .ok (.iinc 5 1, 3) := by decide +kernel
theorem dX11_layPairing_39 : decode cX11_layPairing 39 = .ok (.goto (-12), 3) := by decide +kernel
theorem dX11_layPairing_42 : decode cX11_layPairing 42 = .ok (.iload_n 3, 1) := by decide +kernel
theorem dX11_layPairing_43 : decode cX11_layPairing 43 = .ok (.iconst 1, 1) := by decide +kernel
theorem dX11_layPairing_44 : decode cX11_layPairing 44 = .ok (.iload 5, 2) := by decide +kernel
theorem dX11_layPairing_46 : decode cX11_layPairing 46 = .ok (.ishl, 1) := by decide +kernel
theorem dX11_layPairing_47 : decode cX11_layPairing 47 = .ok (.isub, 1) := by decide +kernel
theorem dX11_layPairing_48 : decode cX11_layPairing 48 = .ok (.istore_n 3, 1) := by decide +kernel
theorem dX11_layPairing_49 : decode cX11_layPairing 49 = .ok (.iload_n 2, 1) := by decide +kernel
theorem dX11_layPairing_50 : decode cX11_layPairing 50 = .ok (.iload 4, 2) := by decide +kernel
theorem dX11_layPairing_52 : decode cX11_layPairing 52 = .ok (.irem, 1) := by decide +kernel
theorem dX11_layPairing_53 : decode cX11_layPairing 53 = .ok (.istore 6, 2) := by decide +kernel
theorem dX11_layPairing_55 : decode cX11_layPairing 55 = .ok (.iload_n 2, 1) := by decide +kernel
theorem dX11_layPairing_56 : decode cX11_layPairing 56 = .ok (.iload 4, 2) := by decide +kernel
theorem dX11_layPairing_58 : decode cX11_layPairing 58 = .ok (.idiv, 1) := by decide +kernel
theorem dX11_layPairing_59 : decode cX11_layPairing 59 = .ok (.istore_n 2, 1) := by decide +kernel
theorem dX11_layPairing_60 : decode cX11_layPairing 60 = .ok (.iload 5, 2) := by decide +kernel
theorem dX11_layPairing_62 : decode cX11_layPairing 62 = .ok (.iconst 1, 1) := by decide +kernel
theorem dX11_layPairing_63 : decode cX11_layPairing 63 = .ok (.iadd, 1) := by decide +kernel
theorem dX11_layPairing_64 : decode cX11_layPairing 64 = .ok (.istore 7, 2) := by decide +kernel
theorem dX11_layPairing_66 : decode cX11_layPairing 66 = .ok (.iload_n 3, 1) := by decide +kernel
theorem dX11_layPairing_67 : decode cX11_layPairing 67 = .ok (.iload 7, 2) := by decide +kernel
theorem dX11_layPairing_69 : decode cX11_layPairing 69 = .ok (.ishr, 1) := by decide +kernel
theorem dX11_layPairing_70 : decode cX11_layPairing 70 = .ok (.iconst 1, 1) := by decide +kernel
theorem dX11_layPairing_71 : decode cX11_layPairing 71 = .ok (.iand, 1) := by decide +kernel
theorem dX11_layPairing_72 : decode cX11_layPairing 72 = .ok (.ifCond .eq 8, 3) := by decide +kernel
theorem dX11_layPairing_75 : decode cX11_layPairing 75 = .ok (.iload 6, 2) := by decide +kernel
theorem dX11_layPairing_77 : decode cX11_layPairing 77 = .ok (.ifCond .le 20, 3) := by decide +kernel
theorem dX11_layPairing_80 : decode cX11_layPairing 80 = .ok (.iload 6, 2) := by decide +kernel
theorem dX11_layPairing_82 : decode cX11_layPairing 82 = .ok (.iload_n 3, 1) := by decide +kernel
theorem dX11_layPairing_83 : decode cX11_layPairing 83 = .ok (.iload 7, 2) := by decide +kernel
theorem dX11_layPairing_85 : decode cX11_layPairing 85 = .ok (.ishr, 1) := by decide +kernel
theorem dX11_layPairing_86 : decode cX11_layPairing 86 = .ok (.iconst 1, 1) := by decide +kernel
theorem dX11_layPairing_87 : decode cX11_layPairing 87 = .ok (.iand, 1) := by decide +kernel
theorem dX11_layPairing_88 : decode cX11_layPairing 88 = .ok (.isub, 1) := by decide +kernel
theorem dX11_layPairing_89 : decode cX11_layPairing 89 = .ok (.istore 6, 2) := by decide +kernel
theorem dX11_layPairing_91 : decode cX11_layPairing 91 = .ok (.iinc 7 1, 3) := by decide +kernel
theorem dX11_layPairing_94 : decode cX11_layPairing 94 = .ok (.goto (-28), 3) := by decide +kernel
theorem dX11_layPairing_97 : decode cX11_layPairing 97 = .ok (.iload_n 3, 1) := by decide +kernel
theorem dX11_layPairing_98 : decode cX11_layPairing 98 = .ok (.iconst 1, 1) := by decide +kernel
theorem dX11_layPairing_99 : decode cX11_layPairing 99 = .ok (.iload 7, 2) := by decide +kernel
theorem dX11_layPairing_101 : decode cX11_layPairing 101 = .ok (.ishl, 1) := by decide +kernel
theorem dX11_layPairing_102 : decode cX11_layPairing 102 = .ok (.isub, 1) := by decide +kernel
theorem dX11_layPairing_103 : decode cX11_layPairing 103 = .ok (.istore_n 3, 1) := by decide +kernel
theorem dX11_layPairing_104 : decode cX11_layPairing 104 = .ok (.aload_n 0, 1) := by decide +kernel
theorem dX11_layPairing_105 : decode cX11_layPairing 105 = .ok (.getfield 43, 3) := by decide +kernel
theorem dX11_layPairing_108 : decode cX11_layPairing 108 = .ok (.iload 5, 2) := by decide +kernel
theorem dX11_layPairing_110 : decode cX11_layPairing 110 = .ok (.iload 7, 2) := by decide +kernel
theorem dX11_layPairing_112 : decode cX11_layPairing 112 = .ok (.iastore, 1) := by decide +kernel
theorem dX11_layPairing_113 : decode cX11_layPairing 113 = .ok (.aload_n 0, 1) := by decide +kernel
theorem dX11_layPairing_114 : decode cX11_layPairing 114 = .ok (.getfield 43, 3) := by decide +kernel
theorem dX11_layPairing_117 : decode cX11_layPairing 117 = .ok (.iload 7, 2) := by decide +kernel
theorem dX11_layPairing_119 : decode cX11_layPairing 119 = .ok (.iload 5, 2) := by decide +kernel
theorem dX11_layPairing_121 : decode cX11_layPairing 121 = .ok (.iastore, 1) := by decide +kernel
theorem dX11_layPairing_122 : decode cX11_layPairing 122 = .ok (.iinc 4 (-2), 3) := by decide +kernel
theorem dX11_layPairing_125 : decode cX11_layPairing 125 = .ok (.goto (-106), 3) := by decide +kernel
theorem dX11_layPairing_128 : decode cX11_layPairing 128 = .ok (.return_, 1) := by decide +kernel
theorem dX11_isSo_0 : decode cX11_isSo 0 = .ok (.iconst 1, 1) := by decide +kernel
theorem dX11_isSo_1 : decode cX11_isSo 1 = .ok (.istore_n 1, 1) := by decide +kernel
theorem dX11_isSo_2 : decode cX11_isSo 2 = .ok (.iconst 0, 1) := by decide +kernel
theorem dX11_isSo_3 : decode cX11_isSo 3 = .ok (.istore_n 2, 1) := by decide +kernel
theorem dX11_isSo_4 : decode cX11_isSo 4 = .ok (.iload_n 2, 1) := by decide +kernel
theorem dX11_isSo_5 : decode cX11_isSo 5 = .ok (.aload_n 0, 1) := by decide +kernel
theorem dX11_isSo_6 : decode cX11_isSo 6 = .ok (.getfield 231, 3) := by decide +kernel
theorem dX11_isSo_9 : decode cX11_isSo 9 = .ok (.if_icmp .ge 49, 3) := by decide +kernel
theorem dX11_isSo_12 : decode cX11_isSo 12 = .ok (.iload_n 1, 1) := by decide +kernel
theorem dX11_isSo_13 : decode cX11_isSo 13 = .ok (.ifCond .eq 37, 3) := by decide +kernel
theorem dX11_isSo_16 : decode cX11_isSo 16 = .ok (.aload_n 0, 1) := by decide +kernel
theorem dX11_isSo_17 : decode cX11_isSo 17 = .ok (.getfield 40, 3) := by decide +kernel
theorem dX11_isSo_20 : decode cX11_isSo 20 = .ok (.iconst 2, 1) := by decide +kernel
theorem dX11_isSo_21 : decode cX11_isSo 21 = .ok (.iload_n 2, 1) := by decide +kernel
theorem dX11_isSo_22 : decode cX11_isSo 22 = .ok (.imul, 1) := by decide +kernel
theorem dX11_isSo_23 : decode cX11_isSo 23 = .ok (.iconst 1, 1) := by decide +kernel
theorem dX11_isSo_24 : decode cX11_isSo 24 = .ok (.iadd, 1) := by decide +kernel
theorem dX11_isSo_25 : decode cX11_isSo 25 = .ok (.iaload, 1) := by decide +kernel
theorem dX11_isSo_26 : decode cX11_isSo 26 = .ok (.aload_n 0, 1) := by decide +kernel
theorem dX11_isSo_27 : decode cX11_isSo 27 = .ok (.getfield 43, 3) := by decide +kernel
theorem dX11_isSo_30 : decode cX11_isSo 30 = .ok (.aload_n 0, 1) := by decide +kernel
theorem dX11_isSo_31 : decode cX11_isSo 31 = .ok (.getfield 40, 3) := by decide +kernel
theorem dX11_isSo_34 : decode cX11_isSo 34 = .ok (.iconst 2, 1) := by decide +kernel
theorem dX11_isSo_35 : decode cX11_isSo 35 = .ok (.iload_n 2, 1) := by decide +kernel
theorem dX11_isSo_36 : decode cX11_isSo 36 = .ok (.imul, 1) := by decide +kernel
theorem dX11_isSo_37 : decode cX11_isSo 37 = .ok (.iaload, 1) := by decide +kernel
theorem dX11_isSo_38 : decode cX11_isSo 38 = .ok (.iaload, 1) := by decide +kernel
theorem dX11_isSo_39 : decode cX11_isSo 39 = .ok (.ishr, 1) := by decide +kernel
theorem dX11_isSo_40 : decode cX11_isSo 40 = .ok (.iconst 1, 1) := by decide +kernel
theorem dX11_isSo_41 : decode cX11_isSo 41 = .ok (.iand, 1) := by decide +kernel
theorem dX11_isSo_42 : decode cX11_isSo 42 = .ok (.iconst 1, 1) := by decide +kernel
theorem dX11_isSo_43 : decode cX11_isSo 43 = .ok (.if_icmp .ne 7, 3) := by decide +kernel
theorem dX11_isSo_46 : decode cX11_isSo 46 = .ok (.iconst 1, 1) := by decide +kernel
theorem dX11_isSo_47 : decode cX11_isSo 47 = .ok (.goto 4, 3) := by decide +kernel
theorem dX11_isSo_50 : decode cX11_isSo 50 = .ok (.iconst 0, 1) := by decide +kernel
theorem dX11_isSo_51 : decode cX11_isSo 51 = .ok (.istore_n 1, 1) := by decide +kernel
theorem dX11_isSo_52 : decode cX11_isSo 52 = .ok (.iinc 2 1, 3) := by decide +kernel
theorem dX11_isSo_55 : decode cX11_isSo 55 = .ok (.goto (-51), 3) := by decide +kernel
theorem dX11_isSo_58 : decode cX11_isSo 58 = .ok (.iload_n 1, 1) := by decide +kernel
theorem dX11_isSo_59 : decode cX11_isSo 59 = .ok (.ireturn, 1) := by decide +kernel
theorem dX11_pairingsOf_0 : decode cX11_pairingsOf 0 = .ok (.aload_n 0, 1) := by decide +kernel
theorem dX11_pairingsOf_1 : decode cX11_pairingsOf 1 = .ok (.getfield 65, 3) := by decide +kernel
theorem dX11_pairingsOf_4 : decode cX11_pairingsOf 4 = .ok (.iconst 2, 1) := by decide +kernel

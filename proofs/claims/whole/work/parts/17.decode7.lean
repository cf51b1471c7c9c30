theorem dX11_pairingsOf_5 : decode cX11_pairingsOf 5 = .ok (.if_icmp .ne 7, 3) := by decide +kernel
theorem dX11_pairingsOf_8 : decode cX11_pairingsOf 8 = .ok (.iconst 1, 1) := by decide +kernel
theorem dX11_pairingsOf_9 : decode cX11_pairingsOf 9 = .ok (.goto 31, 3) := by decide +kernel
theorem dX11_pairingsOf_12 : decode cX11_pairingsOf 12 = .ok (.aload_n 0, 1) := by decide +kernel
theorem dX11_pairingsOf_13 : decode cX11_pairingsOf 13 = .ok (.getfield 65, 3) := by decide +kernel
theorem dX11_pairingsOf_16 : decode cX11_pairingsOf 16 = .ok (.iconst 4, 1) := by decide +kernel
theorem dX11_pairingsOf_17 : decode cX11_pairingsOf 17 = .ok (.if_icmp .ne 7, 3) := by decide +kernel
theorem dX11_pairingsOf_20 : decode cX11_pairingsOf 20 = .ok (.iconst 3, 1) := by decide +kernel
theorem dX11_pairingsOf_21 : decode cX11_pairingsOf 21 = .ok (.goto 19, 3) := by decide +kernel
theorem dX11_pairingsOf_24 : decode cX11_pairingsOf 24 = .ok (.aload_n 0, 1) := by decide +kernel
theorem dX11_pairingsOf_25 : decode cX11_pairingsOf 25 = .ok (.getfield 65, 3) := by decide +kernel
theorem dX11_pairingsOf_28 : decode cX11_pairingsOf 28 = .ok (.bipush 6, 2) := by decide +kernel
theorem dX11_pairingsOf_30 : decode cX11_pairingsOf 30 = .ok (.if_icmp .ne 8, 3) := by decide +kernel
theorem dX11_pairingsOf_33 : decode cX11_pairingsOf 33 = .ok (.bipush 15, 2) := by decide +kernel
theorem dX11_pairingsOf_35 : decode cX11_pairingsOf 35 = .ok (.goto 5, 3) := by decide +kernel
theorem dX11_pairingsOf_38 : decode cX11_pairingsOf 38 = .ok (.bipush 105, 2) := by decide +kernel
theorem dX11_pairingsOf_40 : decode cX11_pairingsOf 40 = .ok (.istore_n 1, 1) := by decide +kernel
theorem dX11_pairingsOf_41 : decode cX11_pairingsOf 41 = .ok (.iconst 0, 1) := by decide +kernel
theorem dX11_pairingsOf_42 : decode cX11_pairingsOf 42 = .ok (.istore_n 2, 1) := by decide +kernel
theorem dX11_pairingsOf_43 : decode cX11_pairingsOf 43 = .ok (.iload_n 2, 1) := by decide +kernel
theorem dX11_pairingsOf_44 : decode cX11_pairingsOf 44 = .ok (.bipush 8, 2) := by decide +kernel
theorem dX11_pairingsOf_46 : decode cX11_pairingsOf 46 = .ok (.if_icmp .ge 16, 3) := by decide +kernel
theorem dX11_pairingsOf_49 : decode cX11_pairingsOf 49 = .ok (.aload_n 0, 1) := by decide +kernel
theorem dX11_pairingsOf_50 : decode cX11_pairingsOf 50 = .ok (.getfield 46, 3) := by decide +kernel
theorem dX11_pairingsOf_53 : decode cX11_pairingsOf 53 = .ok (.iload_n 2, 1) := by decide +kernel
theorem dX11_pairingsOf_54 : decode cX11_pairingsOf 54 = .ok (.iconst 0, 1) := by decide +kernel
theorem dX11_pairingsOf_55 : decode cX11_pairingsOf 55 = .ok (.iastore, 1) := by decide +kernel
theorem dX11_pairingsOf_56 : decode cX11_pairingsOf 56 = .ok (.iinc 2 1, 3) := by decide +kernel
theorem dX11_pairingsOf_59 : decode cX11_pairingsOf 59 = .ok (.goto (-16), 3) := by decide +kernel
theorem dX11_pairingsOf_62 : decode cX11_pairingsOf 62 = .ok (.iconst 0, 1) := by decide +kernel
theorem dX11_pairingsOf_63 : decode cX11_pairingsOf 63 = .ok (.istore_n 2, 1) := by decide +kernel
theorem dX11_pairingsOf_64 : decode cX11_pairingsOf 64 = .ok (.iconst 0, 1) := by decide +kernel
theorem dX11_pairingsOf_65 : decode cX11_pairingsOf 65 = .ok (.istore_n 3, 1) := by decide +kernel
theorem dX11_pairingsOf_66 : decode cX11_pairingsOf 66 = .ok (.iload_n 3, 1) := by decide +kernel
theorem dX11_pairingsOf_67 : decode cX11_pairingsOf 67 = .ok (.iload_n 1, 1) := by decide +kernel
theorem dX11_pairingsOf_68 : decode cX11_pairingsOf 68 = .ok (.if_icmp .ge 61, 3) := by decide +kernel
theorem dX11_pairingsOf_71 : decode cX11_pairingsOf 71 = .ok (.aload_n 0, 1) := by decide +kernel
theorem dX11_pairingsOf_72 : decode cX11_pairingsOf 72 = .ok (.iload_n 3, 1) := by decide +kernel
theorem dX11_pairingsOf_73 : decode cX11_pairingsOf 73 = .ok (.invokevirtual 237, 3) := by decide +kernel
theorem dX11_pairingsOf_76 : decode cX11_pairingsOf 76 = .ok (.aload_n 0, 1) := by decide +kernel
theorem dX11_pairingsOf_77 : decode cX11_pairingsOf 77 = .ok (.invokevirtual 240, 3) := by decide +kernel
theorem dX11_pairingsOf_80 : decode cX11_pairingsOf 80 = .ok (.ifCond .eq 43, 3) := by decide +kernel
theorem dX11_pairingsOf_83 : decode cX11_pairingsOf 83 = .ok (.iinc 2 1, 3) := by decide +kernel
theorem dX11_pairingsOf_86 : decode cX11_pairingsOf 86 = .ok (.iconst 0, 1) := by decide +kernel
theorem dX11_pairingsOf_87 : decode cX11_pairingsOf 87 = .ok (.istore 4, 2) := by decide +kernel
theorem dX11_pairingsOf_89 : decode cX11_pairingsOf 89 = .ok (.iload 4, 2) := by decide +kernel
theorem dX11_pairingsOf_91 : decode cX11_pairingsOf 91 = .ok (.aload_n 0, 1) := by decide +kernel
theorem dX11_pairingsOf_92 : decode cX11_pairingsOf 92 = .ok (.getfield 65, 3) := by decide +kernel
theorem dX11_pairingsOf_95 : decode cX11_pairingsOf 95 = .ok (.if_icmp .ge 28, 3) := by decide +kernel
theorem dX11_pairingsOf_98 : decode cX11_pairingsOf 98 = .ok (.aload_n 0, 1) := by decide +kernel
theorem dX11_pairingsOf_99 : decode cX11_pairingsOf 99 = .ok (.getfield 46, 3) := by decide +kernel
theorem dX11_pairingsOf_102 : decode cX11_pairingsOf 102 = .ok (.iload 4, 2) := by decide +kernel
theorem dX11_pairingsOf_104 : decode cX11_pairingsOf 104 = .ok (.dup2, 1) := by decide +kernel
theorem dX11_pairingsOf_105 : decode cX11_pairingsOf 105 = .ok (.iaload, 1) := by decide +kernel
theorem dX11_pairingsOf_106 : decode cX11_pairingsOf 106 = .ok (.iconst 1, 1) := by decide +kernel
theorem dX11_pairingsOf_107 : decode cX11_pairingsOf 107 = .ok (.aload_n 0, 1) := by decide +kernel
theorem dX11_pairingsOf_108 : decode cX11_pairingsOf 108 = .ok (.getfield 43, 3) := by decide +kernel
theorem dX11_pairingsOf_111 : decode cX11_pairingsOf 111 = .ok (.iload 4, 2) := by decide +kernel
theorem dX11_pairingsOf_113 : decode cX11_pairingsOf 113 = .ok (.iaload, 1) := by decide +kernel
theorem dX11_pairingsOf_114 : decode cX11_pairingsOf 114 = .ok (.ishl, 1) := by decide +kernel
theorem dX11_pairingsOf_115 : decode cX11_pairingsOf 115 = .ok (.ior, 1) := by decide +kernel
theorem dX11_pairingsOf_116 : decode cX11_pairingsOf 116 = .ok (.iastore, 1) := by decide +kernel
theorem dX11_pairingsOf_117 : decode cX11_pairingsOf 117 = .ok (.iinc 4 1, 3) := by decide +kernel
theorem dX11_pairingsOf_120 : decode cX11_pairingsOf 120 = .ok (.goto (-31), 3) := by decide +kernel
theorem dX11_pairingsOf_123 : decode cX11_pairingsOf 123 = .ok (.iinc 3 1, 3) := by decide +kernel
theorem dX11_pairingsOf_126 : decode cX11_pairingsOf 126 = .ok (.goto (-60), 3) := by decide +kernel
theorem dX11_pairingsOf_129 : decode cX11_pairingsOf 129 = .ok (.iload_n 2, 1) := by decide +kernel
theorem dX11_pairingsOf_130 : decode cX11_pairingsOf 130 = .ok (.ireturn, 1) := by decide +kernel
theorem dX11_pairings_0 : decode cX11_pairings 0 = .ok (.aload_n 0, 1) := by decide +kernel
theorem dX11_pairings_1 : decode cX11_pairings 1 = .ok (.invokevirtual 243, 3) := by decide +kernel
theorem dX11_pairings_4 : decode cX11_pairings 4 = .ok (.ireturn, 1) := by decide +kernel
theorem dX11_twinNow_0 : decode cX11_twinNow 0 = .ok (.iconst (-1), 1) := by decide +kernel
theorem dX11_twinNow_1 : decode cX11_twinNow 1 = .ok (.istore_n 2, 1) := by decide +kernel
theorem dX11_twinNow_2 : decode cX11_twinNow 2 = .ok (.iconst 0, 1) := by decide +kernel
theorem dX11_twinNow_3 : decode cX11_twinNow 3 = .ok (.istore_n 3, 1) := by decide +kernel
theorem dX11_twinNow_4 : decode cX11_twinNow 4 = .ok (.iload_n 3, 1) := by decide +kernel
theorem dX11_twinNow_5 : decode cX11_twinNow 5 = .ok (.aload_n 0, 1) := by decide +kernel
theorem dX11_twinNow_6 : decode cX11_twinNow 6 = .ok (.getfield 65, 3) := by decide +kernel
theorem dX11_twinNow_9 : decode cX11_twinNow 9 = .ok (.if_icmp .ge 27, 3) := by decide +kernel
theorem dX11_twinNow_12 : decode cX11_twinNow 12 = .ok (.aload_n 0, 1) := by decide +kernel
theorem dX11_twinNow_13 : decode cX11_twinNow 13 = .ok (.getfield 46, 3) := by decide +kernel
theorem dX11_twinNow_16 : decode cX11_twinNow 16 = .ok (.iload_n 1, 1) := by decide +kernel
theorem dX11_twinNow_17 : decode cX11_twinNow 17 = .ok (.iaload, 1) := by decide +kernel
theorem dX11_twinNow_18 : decode cX11_twinNow 18 = .ok (.iconst 1, 1) := by decide +kernel
theorem dX11_twinNow_19 : decode cX11_twinNow 19 = .ok (.iload_n 3, 1) := by decide +kernel
theorem dX11_twinNow_20 : decode cX11_twinNow 20 = .ok (.ishl, 1) := by decide +kernel
theorem dX11_twinNow_21 : decode cX11_twinNow 21 = .ok (.if_icmp .ne 7, 3) := by decide +kernel
theorem dX11_twinNow_24 : decode cX11_twinNow 24 = .ok (.iload_n 3, 1) := by decide +kernel
theorem dX11_twinNow_25 : decode cX11_twinNow 25 = .ok (.goto 4, 3) := by decide +kernel
theorem dX11_twinNow_28 : decode cX11_twinNow 28 = .ok (.iload_n 2, 1) := by decide +kernel
theorem dX11_twinNow_29 : decode cX11_twinNow 29 = .ok (.istore_n 2, 1) := by decide +kernel
theorem dX11_twinNow_30 : decode cX11_twinNow 30 = .ok (.iinc 3 1, 3) := by decide +kernel
theorem dX11_twinNow_33 : decode cX11_twinNow 33 = .ok (.goto (-29), 3) := by decide +kernel
theorem dX11_twinNow_36 : decode cX11_twinNow 36 = .ok (.iload_n 2, 1) := by decide +kernel
theorem dX11_twinNow_37 : decode cX11_twinNow 37 = .ok (.ireturn, 1) := by decide +kernel
theorem dX11_twin_0 : decode cX11_twin 0 = .ok (.iload_n 1, 1) := by decide +kernel
theorem dX11_twin_1 : decode cX11_twin 1 = .ok (.i2l, 1) := by decide +kernel
theorem dX11_twin_2 : decode cX11_twin 2 = .ok (.lconst 0, 1) := by decide +kernel
theorem dX11_twin_3 : decode cX11_twin 3 = .ok (.aload_n 0, 1) := by decide +kernel
theorem dX11_twin_4 : decode cX11_twin 4 = .ok (.getfield 65, 3) := by decide +kernel
theorem dX11_twin_7 : decode cX11_twin 7 = .ok (.iconst 1, 1) := by decide +kernel
theorem dX11_twin_8 : decode cX11_twin 8 = .ok (.isub, 1) := by decide +kernel
theorem dX11_twin_9 : decode cX11_twin 9 = .ok (.i2l, 1) := by decide +kernel
theorem dX11_twin_10 : decode cX11_twin 10 = .ok (.invokestatic 70, 3) := by decide +kernel
theorem dX11_twin_13 : decode cX11_twin 13 = .ok (.ifCond .ne 6, 3) := by decide +kernel
theorem dX11_twin_16 : decode cX11_twin 16 = .ok (.bipush (-101), 2) := by decide +kernel
theorem dX11_twin_18 : decode cX11_twin 18 = .ok (.ireturn, 1) := by decide +kernel
theorem dX11_twin_19 : decode cX11_twin 19 = .ok (.aload_n 0, 1) := by decide +kernel
theorem dX11_twin_20 : decode cX11_twin 20 = .ok (.invokevirtual 243, 3) := by decide +kernel
theorem dX11_twin_23 : decode cX11_twin 23 = .ok (.istore_n 2, 1) := by decide +kernel
theorem dX11_twin_24 : decode cX11_twin 24 = .ok (.aload_n 0, 1) := by decide +kernel
theorem dX11_twin_25 : decode cX11_twin 25 = .ok (.iload_n 1, 1) := by decide +kernel
theorem dX11_twin_26 : decode cX11_twin 26 = .ok (.invokevirtual 246, 3) := by decide +kernel
theorem dX11_twin_29 : decode cX11_twin 29 = .ok (.ireturn, 1) := by decide +kernel
theorem dX11_round_0 : decode cX11_round 0 = .ok (.iload_n 1, 1) := by decide +kernel
theorem dX11_round_1 : decode cX11_round 1 = .ok (.i2l, 1) := by decide +kernel
theorem dX11_round_2 : decode cX11_round 2 = .ok (.ldc2_w 249, 3) := by decide +kernel
theorem dX11_round_5 : decode cX11_round 5 = .ok (.ldc2_w 74, 3) := by decide +kernel
theorem dX11_round_8 : decode cX11_round 8 = .ok (.invokestatic 70, 3) := by decide +kernel
theorem dX11_round_11 : decode cX11_round 11 = .ok (.ifCond .eq 22, 3) := by decide +kernel
theorem dX11_round_14 : decode cX11_round 14 = .ok (.iload_n 2, 1) := by decide +kernel
theorem dX11_round_15 : decode cX11_round 15 = .ok (.i2l, 1) := by decide +kernel
theorem dX11_round_16 : decode cX11_round 16 = .ok (.lconst 0, 1) := by decide +kernel
theorem dX11_round_17 : decode cX11_round 17 = .ok (.ldc2_w 74, 3) := by decide +kernel
theorem dX11_round_20 : decode cX11_round 20 = .ok (.invokestatic 70, 3) := by decide +kernel
theorem dX11_round_23 : decode cX11_round 23 = .ok (.ifCond .eq 10, 3) := by decide +kernel
theorem dX11_round_26 : decode cX11_round 26 = .ok (.iload_n 3, 1) := by decide +kernel
theorem dX11_round_27 : decode cX11_round 27 = .ok (.invokestatic 157, 3) := by decide +kernel
theorem dX11_round_30 : decode cX11_round 30 = .ok (.ifCond .ne 7, 3) := by decide +kernel
theorem dX11_round_33 : decode cX11_round 33 = .ok (.ldc2_w 160, 3) := by decide +kernel
theorem dX11_round_36 : decode cX11_round 36 = .ok (.lreturn, 1) := by decide +kernel
theorem dX11_round_37 : decode cX11_round 37 = .ok (.lconst 1, 1) := by decide +kernel
theorem dX11_round_38 : decode cX11_round 38 = .ok (.lstore 4, 2) := by decide +kernel
theorem dX11_round_40 : decode cX11_round 40 = .ok (.lconst 1, 1) := by decide +kernel
theorem dX11_round_41 : decode cX11_round 41 = .ok (.lstore 6, 2) := by decide +kernel
theorem dX11_round_43 : decode cX11_round 43 = .ok (.iconst 1, 1) := by decide +kernel
theorem dX11_round_44 : decode cX11_round 44 = .ok (.istore 8, 2) := by decide +kernel
theorem dX11_round_46 : decode cX11_round 46 = .ok (.iload 8, 2) := by decide +kernel
theorem dX11_round_48 : decode cX11_round 48 = .ok (.iload_n 1, 1) := by decide +kernel
theorem dX11_round_49 : decode cX11_round 49 = .ok (.if_icmp .ge 24, 3) := by decide +kernel
theorem dX11_round_52 : decode cX11_round 52 = .ok (.lload 4, 2) := by decide +kernel
theorem dX11_round_54 : decode cX11_round 54 = .ok (.iload_n 2, 1) := by decide +kernel
theorem dX11_round_55 : decode cX11_round 55 = .ok (.i2l, 1) := by decide +kernel
theorem dX11_round_56 : decode cX11_round 56 = .ok (.lmul, 1) := by decide +kernel
theorem dX11_round_57 : decode cX11_round 57 = .ok (.lstore 4, 2) := by decide +kernel
theorem dX11_round_59 : decode cX11_round 59 = .ok (.lload 6, 2) := by decide +kernel
theorem dX11_round_61 : decode cX11_round 61 = .ok (.ldc2_w 166, 3) := by decide +kernel
theorem dX11_round_64 : decode cX11_round 64 = .ok (.lmul, 1) := by decide +kernel
theorem dX11_round_65 : decode cX11_round 65 = .ok (.lstore 6, 2) := by decide +kernel
theorem dX11_round_67 : decode cX11_round 67 = .ok (.iinc 8 1, 3) := by decide +kernel
theorem dX11_round_70 : decode cX11_round 70 = .ok (.goto (-24), 3) := by decide +kernel
theorem dX11_round_73 : decode cX11_round 73 = .ok (.lload 4, 2) := by decide +kernel
theorem dX11_round_75 : decode cX11_round 75 = .ok (.lload 6, 2) := by decide +kernel
theorem dX11_round_77 : decode cX11_round 77 = .ok (.iload_n 3, 1) := by decide +kernel
theorem dX11_round_78 : decode cX11_round 78 = .ok (.invokestatic 162, 3) := by decide +kernel
theorem dX11_round_81 : decode cX11_round 81 = .ok (.lreturn, 1) := by decide +kernel
theorem dX11_image_0 : decode cX11_image 0 = .ok (.iconst 0, 1) := by decide +kernel
theorem dX11_image_1 : decode cX11_image 1 = .ok (.istore_n 1, 1) := by decide +kernel
theorem dX11_image_2 : decode cX11_image 2 = .ok (.iload_n 1, 1) := by decide +kernel
theorem dX11_image_3 : decode cX11_image 3 = .ok (.bipush 24, 2) := by decide +kernel
theorem dX11_image_5 : decode cX11_image 5 = .ok (.if_icmp .ge 21, 3) := by decide +kernel
theorem dX11_image_8 : decode cX11_image 8 = .ok (.aload_n 0, 1) := by decide +kernel
theorem dX11_image_9 : decode cX11_image 9 = .ok (.getfield 49, 3) := by decide +kernel
theorem dX11_image_12 : decode cX11_image 12 = .ok (.iload_n 1, 1) := by decide +kernel
theorem dX11_image_13 : decode cX11_image 13 = .ok (.aload_n 0, 1) := by decide +kernel
theorem dX11_image_14 : decode cX11_image 14 = .ok (.getfield 28, 3) := by decide +kernel
theorem dX11_image_17 : decode cX11_image 17 = .ok (.iload_n 1, 1) := by decide +kernel
theorem dX11_image_18 : decode cX11_image 18 = .ok (.iaload, 1) := by decide +kernel
theorem dX11_image_19 : decode cX11_image 19 = .ok (.iastore, 1) := by decide +kernel
theorem dX11_image_20 : decode cX11_image 20 = .ok (.iinc 1 1, 3) := by decide +kernel
theorem dX11_image_23 : decode cX11_image 23 = .ok (.goto (-21), 3) := by decide +kernel
theorem dX11_image_26 : decode cX11_image 26 = .ok (.iconst 0, 1) := by decide +kernel
theorem dX11_image_27 : decode cX11_image 27 = .ok (.istore_n 1, 1) := by decide +kernel
theorem dX11_image_28 : decode cX11_image 28 = .ok (.iload_n 1, 1) := by decide +kernel
theorem dX11_image_29 : decode cX11_image 29 = .ok (.bipush 10, 2) := by decide +kernel
theorem dX11_image_31 : decode cX11_image 31 = .ok (.if_icmp .ge 21, 3) := by decide +kernel
theorem dX11_image_34 : decode cX11_image 34 = .ok (.aload_n 0, 1) := by decide +kernel
theorem dX11_image_35 : decode cX11_image 35 = .ok (.getfield 52, 3) := by decide +kernel
theorem dX11_image_38 : decode cX11_image 38 = .ok (.iload_n 1, 1) := by decide +kernel
theorem dX11_image_39 : decode cX11_image 39 = .ok (.aload_n 0, 1) := by decide +kernel
theorem dX11_image_40 : decode cX11_image 40 = .ok (.getfield 13, 3) := by decide +kernel
theorem dX11_image_43 : decode cX11_image 43 = .ok (.iload_n 1, 1) := by decide +kernel
theorem dX11_image_44 : decode cX11_image 44 = .ok (.iaload, 1) := by decide +kernel
theorem dX11_image_45 : decode cX11_image 45 = .ok (.iastore, 1) := by decide +kernel
theorem dX11_image_46 : decode cX11_image 46 = .ok (.iinc 1 1, 3) := by decide +kernel
theorem dX11_image_49 : decode cX11_image 49 = .ok (.goto (-21), 3) := by decide +kernel
theorem dX11_image_52 : decode cX11_image 52 = .ok (.iconst 0, 1) := by decide +kernel
theorem dX11_image_53 : decode cX11_image 53 = .ok (.istore_n 1, 1) := by decide +kernel
theorem dX11_image_54 : decode cX11_image 54 = .ok (.iload_n 1, 1) := by decide +kernel
theorem dX11_image_55 : decode cX11_image 55 = .ok (.iconst 4, 1) := by decide +kernel
theorem dX11_image_56 : decode cX11_image 56 = .ok (.if_icmp .ge 21, 3) := by decide +kernel
theorem dX11_image_59 : decode cX11_image 59 = .ok (.aload_n 0, 1) := by decide +kernel
theorem dX11_image_60 : decode cX11_image 60 = .ok (.getfield 55, 3) := by decide +kernel
theorem dX11_image_63 : decode cX11_image 63 = .ok (.iload_n 1, 1) := by decide +kernel
theorem dX11_image_64 : decode cX11_image 64 = .ok (.aload_n 0, 1) := by decide +kernel
theorem dX11_image_65 : decode cX11_image 65 = .ok (.getfield 37, 3) := by decide +kernel
theorem dX11_image_68 : decode cX11_image 68 = .ok (.iload_n 1, 1) := by decide +kernel
theorem dX11_image_69 : decode cX11_image 69 = .ok (.iaload, 1) := by decide +kernel
theorem dX11_image_70 : decode cX11_image 70 = .ok (.iastore, 1) := by decide +kernel
theorem dX11_image_71 : decode cX11_image 71 = .ok (.iinc 1 1, 3) := by decide +kernel
theorem dX11_image_74 : decode cX11_image 74 = .ok (.goto (-20), 3) := by decide +kernel
theorem dX11_image_77 : decode cX11_image 77 = .ok (.iconst 0, 1) := by decide +kernel
theorem dX11_image_78 : decode cX11_image 78 = .ok (.istore_n 1, 1) := by decide +kernel
theorem dX11_image_79 : decode cX11_image 79 = .ok (.iload_n 1, 1) := by decide +kernel
theorem dX11_image_80 : decode cX11_image 80 = .ok (.bipush 16, 2) := by decide +kernel
theorem dX11_image_82 : decode cX11_image 82 = .ok (.if_icmp .ge 21, 3) := by decide +kernel
theorem dX11_image_85 : decode cX11_image 85 = .ok (.aload_n 0, 1) := by decide +kernel
theorem dX11_image_86 : decode cX11_image 86 = .ok (.getfield 58, 3) := by decide +kernel
theorem dX11_image_89 : decode cX11_image 89 = .ok (.iload_n 1, 1) := by decide +kernel
theorem dX11_image_90 : decode cX11_image 90 = .ok (.aload_n 0, 1) := by decide +kernel
theorem dX11_image_91 : decode cX11_image 91 = .ok (.getfield 40, 3) := by decide +kernel
theorem dX11_image_94 : decode cX11_image 94 = .ok (.iload_n 1, 1) := by decide +kernel
theorem dX11_image_95 : decode cX11_image 95 = .ok (.iaload, 1) := by decide +kernel
theorem dX11_image_96 : decode cX11_image 96 = .ok (.iastore, 1) := by decide +kernel
theorem dX11_image_97 : decode cX11_image 97 = .ok (.iinc 1 1, 3) := by decide +kernel
theorem dX11_image_100 : decode cX11_image 100 = .ok (.goto (-21), 3) := by decide +kernel
theorem dX11_image_103 : decode cX11_image 103 = .ok (.aload_n 0, 1) := by decide +kernel
theorem dX11_image_104 : decode cX11_image 104 = .ok (.aload_n 0, 1) := by decide +kernel
theorem dX11_image_105 : decode cX11_image 105 = .ok (.getfield 120, 3) := by decide +kernel
theorem dX11_image_108 : decode cX11_image 108 = .ok (.putfield 61, 3) := by decide +kernel
theorem dX11_image_111 : decode cX11_image 111 = .ok (.aload_n 0, 1) := by decide +kernel
theorem dX11_image_112 : decode cX11_image 112 = .ok (.aload_n 0, 1) := by decide +kernel
theorem dX11_image_113 : decode cX11_image 113 = .ok (.getfield 222, 3) := by decide +kernel
theorem dX11_image_116 : decode cX11_image 116 = .ok (.putfield 251, 3) := by decide +kernel
theorem dX11_image_119 : decode cX11_image 119 = .ok (.aload_n 0, 1) := by decide +kernel
theorem dX11_image_120 : decode cX11_image 120 = .ok (.aload_n 0, 1) := by decide +kernel
theorem dX11_image_121 : decode cX11_image 121 = .ok (.getfield 231, 3) := by decide +kernel
theorem dX11_image_124 : decode cX11_image 124 = .ok (.putfield 254, 3) := by decide +kernel
theorem dX11_image_127 : decode cX11_image 127 = .ok (.aload_n 0, 1) := by decide +kernel
theorem dX11_image_128 : decode cX11_image 128 = .ok (.aload_n 0, 1) := by decide +kernel
theorem dX11_image_129 : decode cX11_image 129 = .ok (.getfield 123, 3) := by decide +kernel
theorem dX11_image_132 : decode cX11_image 132 = .ok (.putfield 257, 3) := by decide +kernel
theorem dX11_image_135 : decode cX11_image 135 = .ok (.aload_n 0, 1) := by decide +kernel
theorem dX11_image_136 : decode cX11_image 136 = .ok (.aload_n 0, 1) := by decide +kernel
theorem dX11_image_137 : decode cX11_image 137 = .ok (.getfield 234, 3) := by decide +kernel
theorem dX11_image_140 : decode cX11_image 140 = .ok (.putfield 260, 3) := by decide +kernel
theorem dX11_image_143 : decode cX11_image 143 = .ok (.aload_n 0, 1) := by decide +kernel
theorem dX11_image_144 : decode cX11_image 144 = .ok (.getfield 120, 3) := by decide +kernel
theorem dX11_image_147 : decode cX11_image 147 = .ok (.ireturn, 1) := by decide +kernel
theorem dX11_restore_0 : decode cX11_restore 0 = .ok (.aload_n 0, 1) := by decide +kernel
theorem dX11_restore_1 : decode cX11_restore 1 = .ok (.getfield 61, 3) := by decide +kernel
theorem dX11_restore_4 : decode cX11_restore 4 = .ok (.iconst (-1), 1) := by decide +kernel
theorem dX11_restore_5 : decode cX11_restore 5 = .ok (.if_icmp .eq 25, 3) := by decide +kernel
theorem dX11_restore_8 : decode cX11_restore 8 = .ok (.aload_n 0, 1) := by decide +kernel
theorem dX11_restore_9 : decode cX11_restore 9 = .ok (.getfield 257, 3) := by decide +kernel
theorem dX11_restore_12 : decode cX11_restore 12 = .ok (.aload_n 0, 1) := by decide +kernel
theorem dX11_restore_13 : decode cX11_restore 13 = .ok (.getfield 123, 3) := by decide +kernel
theorem dX11_restore_16 : decode cX11_restore 16 = .ok (.if_icmp .ne 14, 3) := by decide +kernel
theorem dX11_restore_19 : decode cX11_restore 19 = .ok (.aload_n 0, 1) := by decide +kernel
theorem dX11_restore_20 : decode cX11_restore 20 = .ok (.getfield 260, 3) := by decide +kernel
theorem dX11_restore_23 : decode cX11_restore 23 = .ok (.aload_n 0, 1) := by decide +kernel
theorem dX11_restore_24 : decode cX11_restore 24 = .ok (.getfield 234, 3) := by decide +kernel
theorem dX11_restore_27 : decode cX11_restore 27 = .ok (.if_icmp .eq 6, 3) := by decide +kernel
theorem dX11_restore_30 : decode cX11_restore 30 = .ok (.bipush (-103), 2) := by decide +kernel
theorem dX11_restore_32 : decode cX11_restore 32 = .ok (.ireturn, 1) := by decide +kernel
theorem dX11_restore_33 : decode cX11_restore 33 = .ok (.iconst 0, 1) := by decide +kernel
theorem dX11_restore_34 : decode cX11_restore 34 = .ok (.istore_n 1, 1) := by decide +kernel
theorem dX11_restore_35 : decode cX11_restore 35 = .ok (.iload_n 1, 1) := by decide +kernel
theorem dX11_restore_36 : decode cX11_restore 36 = .ok (.bipush 24, 2) := by decide +kernel
theorem dX11_restore_38 : decode cX11_restore 38 = .ok (.if_icmp .ge 21, 3) := by decide +kernel
theorem dX11_restore_41 : decode cX11_restore 41 = .ok (.aload_n 0, 1) := by decide +kernel
theorem dX11_restore_42 : decode cX11_restore 42 = .ok (.getfield 28, 3) := by decide +kernel
theorem dX11_restore_45 : decode cX11_restore 45 = .ok (.iload_n 1, 1) := by decide +kernel
theorem dX11_restore_46 : decode cX11_restore 46 = .ok (.aload_n 0, 1) := by decide +kernel
theorem dX11_restore_47 : decode cX11_restore 47 = .ok (.getfield 49, 3) := by decide +kernel
theorem dX11_restore_50 : decode cX11_restore 50 = .ok (.iload_n 1, 1) := by decide +kernel
theorem dX11_restore_51 : decode cX11_restore 51 = .ok (.iaload, 1) := by decide +kernel
theorem dX11_restore_52 : decode cX11_restore 52 = .ok (.iastore, 1) := by decide +kernel
theorem dX11_restore_53 : decode cX11_restore 53 = .ok (.iinc 1 1, 3) := by decide +kernel
theorem dX11_restore_56 : decode cX11_restore 56 = .ok (.goto (-21), 3) := by decide +kernel
theorem dX11_restore_59 : decode cX11_restore 59 = .ok (.iconst 0, 1) := by decide +kernel
theorem dX11_restore_60 : decode cX11_restore 60 = .ok (.istore_n 1, 1) := by decide +kernel
theorem dX11_restore_61 : decode cX11_restore 61 = .ok (.iload_n 1, 1) := by decide +kernel
theorem dX11_restore_62 : decode cX11_restore 62 = .ok (.bipush 10, 2) := by decide +kernel
theorem dX11_restore_64 : decode cX11_restore 64 = .ok (.if_icmp .ge 21, 3) := by decide +kernel
theorem dX11_restore_67 : decode cX11_restore 67 = .ok (.aload_n 0, 1) := by decide +kernel
theorem dX11_restore_68 : decode cX11_restore 68 = .ok (.getfield 13, 3) := by decide +kernel
theorem dX11_restore_71 : decode cX11_restore 71 = .ok (.iload_n 1, 1) := by decide +kernel
theorem dX11_restore_72 : decode cX11_restore 72 = .ok (.aload_n 0, 1) := by decide +kernel
theorem dX11_restore_73 : decode cX11_restore 73 = .ok (.getfield 52, 3) := by decide +kernel
theorem dX11_restore_76 : decode cX11_restore 76 = .ok (.iload_n 1, 1) := by decide +kernel
theorem dX11_restore_77 : decode cX11_restore 77 = .ok (.iaload, 1) := by decide +kernel
theorem dX11_restore_78 : decode cX11_restore 78 = .ok (.iastore, 1) := by decide +kernel
theorem dX11_restore_79 : decode cX11_restore 79 = .ok (.iinc 1 1, 3) := by decide +kernel
theorem dX11_restore_82 : decode cX11_restore 82 = .ok (.goto (-21), 3) := by decide +kernel
theorem dX11_restore_85 : decode cX11_restore 85 = .ok (.iconst 0, 1) := by decide +kernel
theorem dX11_restore_86 : decode cX11_restore 86 = .ok (.istore_n 1, 1) := by decide +kernel
theorem dX11_restore_87 : decode cX11_restore 87 = .ok (.iload_n 1, 1) := by decide +kernel
theorem dX11_restore_88 : decode cX11_restore 88 = .ok (.iconst 4, 1) := by decide +kernel
theorem dX11_restore_89 : decode cX11_restore 89 = .ok (.if_icmp .ge 21, 3) := by decide +kernel
theorem dX11_restore_92 : decode cX11_restore 92 = .ok (.aload_n 0, 1) := by decide +kernel
theorem dX11_restore_93 : decode cX11_restore 93 = .ok (.getfield 37, 3) := by decide +kernel
theorem dX11_restore_96 : decode cX11_restore 96 = .ok (.iload_n 1, 1) := by decide +kernel
theorem dX11_restore_97 : decode cX11_restore 97 = .ok (.aload_n 0, 1) := by decide +kernel
theorem dX11_restore_98 : decode cX11_restore 98 = .ok (.getfield 55, 3) := by decide +kernel
theorem dX11_restore_101 : decode cX11_restore 101 = .ok (.iload_n 1, 1) := by decide +kernel
theorem dX11_restore_102 : decode cX11_restore 102 = .ok (.iaload, 1) := by decide +kernel
theorem dX11_restore_103 : decode cX11_restore 103 = .ok (.iastore, 1) := by decide +kernel
theorem dX11_restore_104 : decode cX11_restore 104 = .ok (.iinc 1 1, 3) := by decide +kernel
theorem dX11_restore_107 : decode cX11_restore 107 = .ok (.goto (-20), 3) := by decide +kernel
theorem dX11_restore_110 : decode cX11_restore 110 = .ok (.iconst 0, 1) := by decide +kernel
theorem dX11_restore_111 : decode cX11_restore 111 = .ok (.istore_n 1, 1) := by decide +kernel
theorem dX11_restore_112 : decode cX11_restore 112 = .ok (.iload_n 1, 1) := by decide +kernel
theorem dX11_restore_113 : decode cX11_restore 113 = .ok (.bipush 16, 2) := by decide +kernel
theorem dX11_restore_115 : decode cX11_restore 115 = .ok (.if_icmp .ge 21, 3) := by decide +kernel
theorem dX11_restore_118 : decode cX11_restore 118 = .ok (.aload_n 0, 1) := by decide +kernel
theorem dX11_restore_119 : decode cX11_restore 119 = .ok (.getfield 40, 3) := by decide +kernel
theorem dX11_restore_122 : decode cX11_restore 122 = .ok (.iload_n 1, 1) := by decide +kernel
theorem dX11_restore_123 : decode cX11_restore 123 = .ok (.aload_n 0, 1) := by decide +kernel
theorem dX11_restore_124 : decode cX11_restore 124 = .ok (.getfield 58, 3) := by decide +kernel
theorem dX11_restore_127 : decode cX11_restore 127 = .ok (.iload_n 1, 1) := by decide +kernel
theorem dX11_restore_128 : decode cX11_restore 128 = .ok (.iaload, 1) := by decide +kernel
theorem dX11_restore_129 : decode cX11_restore 129 = .ok (.iastore, 1) := by decide +kernel
theorem dX11_restore_130 : decode cX11_restore 130 = .ok (.iinc 1 1, 3) := by decide +kernel
theorem dX11_restore_133 : decode cX11_restore 133 = .ok (.goto (-21), 3) := by decide +kernel
theorem dX11_restore_136 : decode cX11_restore 136 = .ok (.aload_n 0, 1) := by decide +kernel
theorem dX11_restore_137 : decode cX11_restore 137 = .ok (.aload_n 0, 1) := by decide +kernel
theorem dX11_restore_138 : decode cX11_restore 138 = .ok (.getfield 61, 3) := by decide +kernel
theorem dX11_restore_141 : decode cX11_restore 141 = .ok (.putfield 120, 3) := by decide +kernel
theorem dX11_restore_144 : decode cX11_restore 144 = .ok (.aload_n 0, 1) := by decide +kernel
theorem dX11_restore_145 : decode cX11_restore 145 = .ok (.aload_n 0, 1) := by decide +kernel
theorem dX11_restore_146 : decode cX11_restore 146 = .ok (.getfield 251, 3) := by decide +kernel
theorem dX11_restore_149 : decode cX11_restore 149 = .ok (.putfield 222, 3) := by decide +kernel
theorem dX11_restore_152 : decode cX11_restore 152 = .ok (.aload_n 0, 1) := by decide +kernel
theorem dX11_restore_153 : decode cX11_restore 153 = .ok (.aload_n 0, 1) := by decide +kernel
theorem dX11_restore_154 : decode cX11_restore 154 = .ok (.getfield 254, 3) := by decide +kernel
theorem dX11_restore_157 : decode cX11_restore 157 = .ok (.putfield 231, 3) := by decide +kernel
theorem dX11_restore_160 : decode cX11_restore 160 = .ok (.aload_n 0, 1) := by decide +kernel
theorem dX11_restore_161 : decode cX11_restore 161 = .ok (.getfield 120, 3) := by decide +kernel
theorem dX11_restore_164 : decode cX11_restore 164 = .ok (.ireturn, 1) := by decide +kernel
theorem dX11_roadMany_0 : decode cX11_roadMany 0 = .ok (.iconst 0, 1) := by decide +kernel
theorem dX11_roadMany_1 : decode cX11_roadMany 1 = .ok (.istore_n 1, 1) := by decide +kernel
theorem dX11_roadMany_2 : decode cX11_roadMany 2 = .ok (.iconst 0, 1) := by decide +kernel
theorem dX11_roadMany_3 : decode cX11_roadMany 3 = .ok (.istore_n 2, 1) := by decide +kernel
theorem dX11_roadMany_4 : decode cX11_roadMany 4 = .ok (.iload_n 2, 1) := by decide +kernel
theorem dX11_roadMany_5 : decode cX11_roadMany 5 = .ok (.bipush 36, 2) := by decide +kernel
theorem dX11_roadMany_7 : decode cX11_roadMany 7 = .ok (.if_icmp .ge 37, 3) := by decide +kernel
theorem dX11_roadMany_10 : decode cX11_roadMany 10 = .ok (.iload_n 1, 1) := by decide +kernel
theorem dX11_roadMany_11 : decode cX11_roadMany 11 = .ok (.iload_n 2, 1) := by decide +kernel
theorem dX11_roadMany_12 : decode cX11_roadMany 12 = .ok (.bipush 6, 2) := by decide +kernel
theorem dX11_roadMany_14 : decode cX11_roadMany 14 = .ok (.idiv, 1) := by decide +kernel
theorem dX11_roadMany_15 : decode cX11_roadMany 15 = .ok (.iload_n 2, 1) := by decide +kernel
theorem dX11_roadMany_16 : decode cX11_roadMany 16 = .ok (.bipush 6, 2) := by decide +kernel
theorem dX11_roadMany_18 : decode cX11_roadMany 18 = .ok (.irem, 1) := by decide +kernel
theorem dX11_roadMany_19 : decode cX11_roadMany 19 = .ok (.if_icmp .ge 16, 3) := by decide +kernel
theorem dX11_roadMany_22 : decode cX11_roadMany 22 = .ok (.aload_n 0, 1) := by decide +kernel
theorem dX11_roadMany_23 : decode cX11_roadMany 23 = .ok (.getfield 7, 3) := by decide +kernel
theorem dX11_roadMany_26 : decode cX11_roadMany 26 = .ok (.iload_n 2, 1) := by decide +kernel
theorem dX11_roadMany_27 : decode cX11_roadMany 27 = .ok (.iaload, 1) := by decide +kernel
theorem dX11_roadMany_28 : decode cX11_roadMany 28 = .ok (.ifCond .le 7, 3) := by decide +kernel
theorem dX11_roadMany_31 : decode cX11_roadMany 31 = .ok (.iconst 1, 1) := by decide +kernel
theorem dX11_roadMany_32 : decode cX11_roadMany 32 = .ok (.goto 4, 3) := by decide +kernel
theorem dX11_roadMany_35 : decode cX11_roadMany 35 = .ok (.iconst 0, 1) := by decide +kernel
theorem dX11_roadMany_36 : decode cX11_roadMany 36 = .ok (.iadd, 1) := by decide +kernel
theorem dX11_roadMany_37 : decode cX11_roadMany 37 = .ok (.istore_n 1, 1) := by decide +kernel
theorem dX11_roadMany_38 : decode cX11_roadMany 38 = .ok (.iinc 2 1, 3) := by decide +kernel
theorem dX11_roadMany_41 : decode cX11_roadMany 41 = .ok (.goto (-37), 3) := by decide +kernel
theorem dX11_roadMany_44 : decode cX11_roadMany 44 = .ok (.iload_n 1, 1) := by decide +kernel
theorem dX11_roadMany_45 : decode cX11_roadMany 45 = .ok (.ireturn, 1) := by decide +kernel
theorem dX11_countOf_0 : decode cX11_countOf 0 = .ok (.iload_n 1, 1) := by decide +kernel
theorem dX11_countOf_1 : decode cX11_countOf 1 = .ok (.tableswitch 96 0 8 #[51, 56, 61, 66, 71, 76, 81, 86, 91], 51) := by decide +kernel
theorem dX11_countOf_52 : decode cX11_countOf 52 = .ok (.aload_n 0, 1) := by decide +kernel
theorem dX11_countOf_53 : decode cX11_countOf 53 = .ok (.getfield 117, 3) := by decide +kernel
theorem dX11_countOf_56 : decode cX11_countOf 56 = .ok (.ireturn, 1) := by decide +kernel
theorem dX11_countOf_57 : decode cX11_countOf 57 = .ok (.aload_n 0, 1) := by decide +kernel
theorem dX11_countOf_58 : decode cX11_countOf 58 = .ok (.getfield 120, 3) := by decide +kernel
theorem dX11_countOf_61 : decode cX11_countOf 61 = .ok (.ireturn, 1) := by decide +kernel
theorem dX11_countOf_62 : decode cX11_countOf 62 = .ok (.aload_n 0, 1) := by decide +kernel
theorem dX11_countOf_63 : decode cX11_countOf 63 = .ok (.invokevirtual 263, 3) := by decide +kernel
theorem dX11_countOf_66 : decode cX11_countOf 66 = .ok (.ireturn, 1) := by decide +kernel
theorem dX11_countOf_67 : decode cX11_countOf 67 = .ok (.aload_n 0, 1) := by decide +kernel
theorem dX11_countOf_68 : decode cX11_countOf 68 = .ok (.getfield 222, 3) := by decide +kernel
theorem dX11_countOf_71 : decode cX11_countOf 71 = .ok (.ireturn, 1) := by decide +kernel
theorem dX11_countOf_72 : decode cX11_countOf 72 = .ok (.aload_n 0, 1) := by decide +kernel
theorem dX11_countOf_73 : decode cX11_countOf 73 = .ok (.getfield 65, 3) := by decide +kernel
theorem dX11_countOf_76 : decode cX11_countOf 76 = .ok (.ireturn, 1) := by decide +kernel
theorem dX11_countOf_77 : decode cX11_countOf 77 = .ok (.aload_n 0, 1) := by decide +kernel
theorem dX11_countOf_78 : decode cX11_countOf 78 = .ok (.getfield 231, 3) := by decide +kernel
theorem dX11_countOf_81 : decode cX11_countOf 81 = .ok (.ireturn, 1) := by decide +kernel
theorem dX11_countOf_82 : decode cX11_countOf 82 = .ok (.aload_n 0, 1) := by decide +kernel
theorem dX11_countOf_83 : decode cX11_countOf 83 = .ok (.getfield 87, 3) := by decide +kernel
theorem dX11_countOf_86 : decode cX11_countOf 86 = .ok (.ireturn, 1) := by decide +kernel
theorem dX11_countOf_87 : decode cX11_countOf 87 = .ok (.aload_n 0, 1) := by decide +kernel
theorem dX11_countOf_88 : decode cX11_countOf 88 = .ok (.getfield 123, 3) := by decide +kernel
theorem dX11_countOf_91 : decode cX11_countOf 91 = .ok (.ireturn, 1) := by decide +kernel
theorem dX11_countOf_92 : decode cX11_countOf 92 = .ok (.aload_n 0, 1) := by decide +kernel
theorem dX11_countOf_93 : decode cX11_countOf 93 = .ok (.getfield 197, 3) := by decide +kernel
theorem dX11_countOf_96 : decode cX11_countOf 96 = .ok (.ireturn, 1) := by decide +kernel
theorem dX11_countOf_97 : decode cX11_countOf 97 = .ok (.bipush (-102), 2) := by decide +kernel
theorem dX11_countOf_99 : decode cX11_countOf 99 = .ok (.ireturn, 1) := by decide +kernel
theorem dX11_count_0 : decode cX11_count 0 = .ok (.aload_n 0, 1) := by decide +kernel
theorem dX11_count_1 : decode cX11_count 1 = .ok (.iload_n 1, 1) := by decide +kernel
theorem dX11_count_2 : decode cX11_count 2 = .ok (.invokevirtual 266, 3) := by decide +kernel
theorem dX11_count_5 : decode cX11_count 5 = .ok (.ireturn, 1) := by decide +kernel
theorem dX11_say_0 : decode cX11_say 0 = .ok (.aload_n 0, 1) := by decide +kernel
theorem dX11_say_1 : decode cX11_say 1 = .ok (.ldc2_w 269, 3) := by decide +kernel
theorem dX11_say_4 : decode cX11_say 4 = .ok (.aload_n 0, 1) := by decide +kernel
theorem dX11_say_5 : decode cX11_say 5 = .ok (.getfield 271, 3) := by decide +kernel
theorem dX11_say_8 : decode cX11_say 8 = .ok (.lmul, 1) := by decide +kernel
theorem dX11_say_9 : decode cX11_say 9 = .ok (.lload_n 1, 1) := by decide +kernel
theorem dX11_say_10 : decode cX11_say 10 = .ok (.ladd, 1) := by decide +kernel
theorem dX11_say_11 : decode cX11_say 11 = .ok (.putfield 271, 3) := by decide +kernel
theorem dX11_say_14 : decode cX11_say 14 = .ok (.return_, 1) := by decide +kernel
theorem dX11_sayNews_0 : decode cX11_sayNews 0 = .ok (.aload_n 0, 1) := by decide +kernel
theorem dX11_sayNews_1 : decode cX11_sayNews 1 = .ok (.iconst 0, 1) := by decide +kernel
theorem dX11_sayNews_2 : decode cX11_sayNews 2 = .ok (.invokevirtual 183, 3) := by decide +kernel
theorem dX11_sayNews_5 : decode cX11_sayNews 5 = .ok (.aload_n 0, 1) := by decide +kernel
theorem dX11_sayNews_6 : decode cX11_sayNews 6 = .ok (.invokevirtual 187, 3) := by decide +kernel
theorem dX11_sayNews_9 : decode cX11_sayNews 9 = .ok (.iconst 0, 1) := by decide +kernel
theorem dX11_sayNews_10 : decode cX11_sayNews 10 = .ok (.istore_n 1, 1) := by decide +kernel
theorem dX11_sayNews_11 : decode cX11_sayNews 11 = .ok (.iload_n 1, 1) := by decide +kernel
theorem dX11_sayNews_12 : decode cX11_sayNews 12 = .ok (.bipush 36, 2) := by decide +kernel
theorem dX11_sayNews_14 : decode cX11_sayNews 14 = .ok (.if_icmp .ge 26, 3) := by decide +kernel
theorem dX11_sayNews_17 : decode cX11_sayNews 17 = .ok (.aload_n 0, 1) := by decide +kernel
theorem dX11_sayNews_18 : decode cX11_sayNews 18 = .ok (.aload_n 0, 1) := by decide +kernel
theorem dX11_sayNews_19 : decode cX11_sayNews 19 = .ok (.iload_n 1, 1) := by decide +kernel
theorem dX11_sayNews_20 : decode cX11_sayNews 20 = .ok (.bipush 6, 2) := by decide +kernel
theorem dX11_sayNews_22 : decode cX11_sayNews 22 = .ok (.idiv, 1) := by decide +kernel
theorem dX11_sayNews_23 : decode cX11_sayNews 23 = .ok (.iload_n 1, 1) := by decide +kernel
theorem dX11_sayNews_24 : decode cX11_sayNews 24 = .ok (.bipush 6, 2) := by decide +kernel
theorem dX11_sayNews_26 : decode cX11_sayNews 26 = .ok (.irem, 1) := by decide +kernel
theorem dX11_sayNews_27 : decode cX11_sayNews 27 = .ok (.invokevirtual 190, 3) := by decide +kernel
theorem dX11_sayNews_30 : decode cX11_sayNews 30 = .ok (.i2l, 1) := by decide +kernel
theorem dX11_sayNews_31 : decode cX11_sayNews 31 = .ok (.invokevirtual 275, 3) := by decide +kernel
theorem dX11_sayNews_34 : decode cX11_sayNews 34 = .ok (.iinc 1 1, 3) := by decide +kernel
theorem dX11_sayNews_37 : decode cX11_sayNews 37 = .ok (.goto (-26), 3) := by decide +kernel
theorem dX11_sayNews_40 : decode cX11_sayNews 40 = .ok (.return_, 1) := by decide +kernel
theorem dX11_digest_0 : decode cX11_digest 0 = .ok (.aload_n 0, 1) := by decide +kernel
theorem dX11_digest_1 : decode cX11_digest 1 = .ok (.ldc2_w 279, 3) := by decide +kernel
theorem dX11_digest_4 : decode cX11_digest 4 = .ok (.putfield 271, 3) := by decide +kernel
theorem dX11_digest_7 : decode cX11_digest 7 = .ok (.iconst 0, 1) := by decide +kernel
theorem dX11_digest_8 : decode cX11_digest 8 = .ok (.istore_n 1, 1) := by decide +kernel
theorem dX11_digest_9 : decode cX11_digest 9 = .ok (.iload_n 1, 1) := by decide +kernel
theorem dX11_digest_10 : decode cX11_digest 10 = .ok (.bipush 7, 2) := by decide +kernel
theorem dX11_digest_12 : decode cX11_digest 12 = .ok (.aload_n 0, 1) := by decide +kernel
theorem dX11_digest_13 : decode cX11_digest 13 = .ok (.getfield 117, 3) := by decide +kernel
theorem dX11_digest_16 : decode cX11_digest 16 = .ok (.imul, 1) := by decide +kernel
theorem dX11_digest_17 : decode cX11_digest 17 = .ok (.if_icmp .ge 20, 3) := by decide +kernel
theorem dX11_digest_20 : decode cX11_digest 20 = .ok (.aload_n 0, 1) := by decide +kernel
theorem dX11_digest_21 : decode cX11_digest 21 = .ok (.aload_n 0, 1) := by decide +kernel
theorem dX11_digest_22 : decode cX11_digest 22 = .ok (.getfield 22, 3) := by decide +kernel
theorem dX11_digest_25 : decode cX11_digest 25 = .ok (.iload_n 1, 1) := by decide +kernel
theorem dX11_digest_26 : decode cX11_digest 26 = .ok (.iaload, 1) := by decide +kernel
theorem dX11_digest_27 : decode cX11_digest 27 = .ok (.i2l, 1) := by decide +kernel
theorem dX11_digest_28 : decode cX11_digest 28 = .ok (.invokevirtual 275, 3) := by decide +kernel
theorem dX11_digest_31 : decode cX11_digest 31 = .ok (.iinc 1 1, 3) := by decide +kernel
theorem dX11_digest_34 : decode cX11_digest 34 = .ok (.goto (-25), 3) := by decide +kernel
theorem dX11_digest_37 : decode cX11_digest 37 = .ok (.iconst 0, 1) := by decide +kernel
theorem dX11_digest_38 : decode cX11_digest 38 = .ok (.istore_n 1, 1) := by decide +kernel
theorem dX11_digest_39 : decode cX11_digest 39 = .ok (.iload_n 1, 1) := by decide +kernel
theorem dX11_digest_40 : decode cX11_digest 40 = .ok (.bipush 10, 2) := by decide +kernel
theorem dX11_digest_42 : decode cX11_digest 42 = .ok (.if_icmp .ge 51, 3) := by decide +kernel
theorem dX11_digest_45 : decode cX11_digest 45 = .ok (.iconst 0, 1) := by decide +kernel
theorem dX11_digest_46 : decode cX11_digest 46 = .ok (.istore_n 2, 1) := by decide +kernel
theorem dX11_digest_47 : decode cX11_digest 47 = .ok (.iload_n 2, 1) := by decide +kernel
theorem dX11_digest_48 : decode cX11_digest 48 = .ok (.iconst 3, 1) := by decide +kernel
theorem dX11_digest_49 : decode cX11_digest 49 = .ok (.if_icmp .ge 20, 3) := by decide +kernel
theorem dX11_digest_52 : decode cX11_digest 52 = .ok (.aload_n 0, 1) := by decide +kernel
theorem dX11_digest_53 : decode cX11_digest 53 = .ok (.aload_n 0, 1) := by decide +kernel
theorem dX11_digest_54 : decode cX11_digest 54 = .ok (.iload_n 1, 1) := by decide +kernel
theorem dX11_digest_55 : decode cX11_digest 55 = .ok (.iload_n 2, 1) := by decide +kernel
theorem dX11_digest_56 : decode cX11_digest 56 = .ok (.invokevirtual 134, 3) := by decide +kernel
theorem dX11_digest_59 : decode cX11_digest 59 = .ok (.i2l, 1) := by decide +kernel
theorem dX11_digest_60 : decode cX11_digest 60 = .ok (.invokevirtual 275, 3) := by decide +kernel
theorem dX11_digest_63 : decode cX11_digest 63 = .ok (.iinc 2 1, 3) := by decide +kernel
theorem dX11_digest_66 : decode cX11_digest 66 = .ok (.goto (-19), 3) := by decide +kernel
theorem dX11_digest_69 : decode cX11_digest 69 = .ok (.aload_n 0, 1) := by decide +kernel
theorem dX11_digest_70 : decode cX11_digest 70 = .ok (.aload_n 0, 1) := by decide +kernel
theorem dX11_digest_71 : decode cX11_digest 71 = .ok (.iload_n 1, 1) := by decide +kernel
theorem dX11_digest_72 : decode cX11_digest 72 = .ok (.iconst 0, 1) := by decide +kernel
theorem dX11_digest_73 : decode cX11_digest 73 = .ok (.sipush 1999, 3) := by decide +kernel
theorem dX11_digest_76 : decode cX11_digest 76 = .ok (.aload_n 0, 1) := by decide +kernel
theorem dX11_digest_77 : decode cX11_digest 77 = .ok (.getfield 120, 3) := by decide +kernel
theorem dX11_digest_80 : decode cX11_digest 80 = .ok (.invokevirtual 151, 3) := by decide +kernel
theorem dX11_digest_83 : decode cX11_digest 83 = .ok (.i2l, 1) := by decide +kernel
theorem dX11_digest_84 : decode cX11_digest 84 = .ok (.invokevirtual 275, 3) := by decide +kernel
theorem dX11_digest_87 : decode cX11_digest 87 = .ok (.iinc 1 1, 3) := by decide +kernel
theorem dX11_digest_90 : decode cX11_digest 90 = .ok (.goto (-51), 3) := by decide +kernel
theorem dX11_digest_93 : decode cX11_digest 93 = .ok (.aload_n 0, 1) := by decide +kernel
theorem dX11_digest_94 : decode cX11_digest 94 = .ok (.aload_n 0, 1) := by decide +kernel
theorem dX11_digest_95 : decode cX11_digest 95 = .ok (.invokevirtual 171, 3) := by decide +kernel
theorem dX11_digest_98 : decode cX11_digest 98 = .ok (.i2l, 1) := by decide +kernel
theorem dX11_digest_99 : decode cX11_digest 99 = .ok (.invokevirtual 275, 3) := by decide +kernel
theorem dX11_digest_102 : decode cX11_digest 102 = .ok (.aload_n 0, 1) := by decide +kernel
theorem dX11_digest_103 : decode cX11_digest 103 = .ok (.invokevirtual 281, 3) := by decide +kernel
theorem dX11_digest_106 : decode cX11_digest 106 = .ok (.iconst 0, 1) := by decide +kernel
theorem dX11_digest_107 : decode cX11_digest 107 = .ok (.istore_n 1, 1) := by decide +kernel
theorem dX11_digest_108 : decode cX11_digest 108 = .ok (.iload_n 1, 1) := by decide +kernel
theorem dX11_digest_109 : decode cX11_digest 109 = .ok (.aload_n 0, 1) := by decide +kernel
theorem dX11_digest_110 : decode cX11_digest 110 = .ok (.getfield 222, 3) := by decide +kernel
theorem dX11_digest_113 : decode cX11_digest 113 = .ok (.if_icmp .ge 20, 3) := by decide +kernel
theorem dX11_digest_116 : decode cX11_digest 116 = .ok (.aload_n 0, 1) := by decide +kernel
theorem dX11_digest_117 : decode cX11_digest 117 = .ok (.aload_n 0, 1) := by decide +kernel
theorem dX11_digest_118 : decode cX11_digest 118 = .ok (.getfield 37, 3) := by decide +kernel
theorem dX11_digest_121 : decode cX11_digest 121 = .ok (.iload_n 1, 1) := by decide +kernel
theorem dX11_digest_122 : decode cX11_digest 122 = .ok (.iaload, 1) := by decide +kernel
theorem dX11_digest_123 : decode cX11_digest 123 = .ok (.i2l, 1) := by decide +kernel
theorem dX11_digest_124 : decode cX11_digest 124 = .ok (.invokevirtual 275, 3) := by decide +kernel
theorem dX11_digest_127 : decode cX11_digest 127 = .ok (.iinc 1 1, 3) := by decide +kernel
theorem dX11_digest_130 : decode cX11_digest 130 = .ok (.goto (-22), 3) := by decide +kernel
theorem dX11_digest_133 : decode cX11_digest 133 = .ok (.aload_n 0, 1) := by decide +kernel
theorem dX11_digest_134 : decode cX11_digest 134 = .ok (.aload_n 0, 1) := by decide +kernel
theorem dX11_digest_135 : decode cX11_digest 135 = .ok (.invokevirtual 243, 3) := by decide +kernel
theorem dX11_digest_138 : decode cX11_digest 138 = .ok (.i2l, 1) := by decide +kernel
theorem dX11_digest_139 : decode cX11_digest 139 = .ok (.invokevirtual 275, 3) := by decide +kernel
theorem dX11_digest_142 : decode cX11_digest 142 = .ok (.iconst 0, 1) := by decide +kernel
theorem dX11_digest_143 : decode cX11_digest 143 = .ok (.istore_n 1, 1) := by decide +kernel
theorem dX11_digest_144 : decode cX11_digest 144 = .ok (.iload_n 1, 1) := by decide +kernel
theorem dX11_digest_145 : decode cX11_digest 145 = .ok (.aload_n 0, 1) := by decide +kernel
theorem dX11_digest_146 : decode cX11_digest 146 = .ok (.getfield 65, 3) := by decide +kernel
theorem dX11_digest_149 : decode cX11_digest 149 = .ok (.if_icmp .ge 19, 3) := by decide +kernel
theorem dX11_digest_152 : decode cX11_digest 152 = .ok (.aload_n 0, 1) := by decide +kernel
theorem dX11_digest_153 : decode cX11_digest 153 = .ok (.aload_n 0, 1) := by decide +kernel
theorem dX11_digest_154 : decode cX11_digest 154 = .ok (.iload_n 1, 1) := by decide +kernel
theorem dX11_digest_155 : decode cX11_digest 155 = .ok (.invokevirtual 246, 3) := by decide +kernel
theorem dX11_digest_158 : decode cX11_digest 158 = .ok (.i2l, 1) := by decide +kernel
theorem dX11_digest_159 : decode cX11_digest 159 = .ok (.invokevirtual 275, 3) := by decide +kernel
theorem dX11_digest_162 : decode cX11_digest 162 = .ok (.iinc 1 1, 3) := by decide +kernel
theorem dX11_digest_165 : decode cX11_digest 165 = .ok (.goto (-21), 3) := by decide +kernel
theorem dX11_digest_168 : decode cX11_digest 168 = .ok (.iconst 0, 1) := by decide +kernel
theorem dX11_digest_169 : decode cX11_digest 169 = .ok (.istore_n 1, 1) := by decide +kernel
theorem dX11_digest_170 : decode cX11_digest 170 = .ok (.iload_n 1, 1) := by decide +kernel
theorem dX11_digest_171 : decode cX11_digest 171 = .ok (.aload_n 0, 1) := by decide +kernel
theorem dX11_digest_172 : decode cX11_digest 172 = .ok (.getfield 87, 3) := by decide +kernel
theorem dX11_digest_175 : decode cX11_digest 175 = .ok (.if_icmp .ge 20, 3) := by decide +kernel
theorem dX11_digest_178 : decode cX11_digest 178 = .ok (.aload_n 0, 1) := by decide +kernel
theorem dX11_digest_179 : decode cX11_digest 179 = .ok (.aload_n 0, 1) := by decide +kernel
theorem dX11_digest_180 : decode cX11_digest 180 = .ok (.getfield 16, 3) := by decide +kernel
theorem dX11_digest_183 : decode cX11_digest 183 = .ok (.iload_n 1, 1) := by decide +kernel
theorem dX11_digest_184 : decode cX11_digest 184 = .ok (.iaload, 1) := by decide +kernel
theorem dX11_digest_185 : decode cX11_digest 185 = .ok (.i2l, 1) := by decide +kernel
theorem dX11_digest_186 : decode cX11_digest 186 = .ok (.invokevirtual 275, 3) := by decide +kernel
theorem dX11_digest_189 : decode cX11_digest 189 = .ok (.iinc 1 1, 3) := by decide +kernel
theorem dX11_digest_192 : decode cX11_digest 192 = .ok (.goto (-22), 3) := by decide +kernel
theorem dX11_digest_195 : decode cX11_digest 195 = .ok (.iconst 0, 1) := by decide +kernel
theorem dX11_digest_196 : decode cX11_digest 196 = .ok (.istore_n 1, 1) := by decide +kernel
theorem dX11_digest_197 : decode cX11_digest 197 = .ok (.iload_n 1, 1) := by decide +kernel
theorem dX11_digest_198 : decode cX11_digest 198 = .ok (.bipush 9, 2) := by decide +kernel
theorem dX11_digest_200 : decode cX11_digest 200 = .ok (.if_icmp .ge 19, 3) := by decide +kernel
theorem dX11_digest_203 : decode cX11_digest 203 = .ok (.aload_n 0, 1) := by decide +kernel
theorem dX11_digest_204 : decode cX11_digest 204 = .ok (.aload_n 0, 1) := by decide +kernel
theorem dX11_digest_205 : decode cX11_digest 205 = .ok (.iload_n 1, 1) := by decide +kernel
theorem dX11_digest_206 : decode cX11_digest 206 = .ok (.invokevirtual 266, 3) := by decide +kernel
theorem dX11_digest_209 : decode cX11_digest 209 = .ok (.i2l, 1) := by decide +kernel
theorem dX11_digest_210 : decode cX11_digest 210 = .ok (.invokevirtual 275, 3) := by decide +kernel
theorem dX11_digest_213 : decode cX11_digest 213 = .ok (.iinc 1 1, 3) := by decide +kernel
theorem dX11_digest_216 : decode cX11_digest 216 = .ok (.goto (-19), 3) := by decide +kernel
theorem dX11_digest_219 : decode cX11_digest 219 = .ok (.aload_n 0, 1) := by decide +kernel
theorem dX11_digest_220 : decode cX11_digest 220 = .ok (.getfield 271, 3) := by decide +kernel
theorem dX11_digest_223 : decode cX11_digest 223 = .ok (.lreturn, 1) := by decide +kernel
theorem dJ6_bitCount_0f7a4_0 : decode cJ6_bitCount_0f7a4 0 = .ok (.iload_n 0, 1) := by decide +kernel
theorem dJ6_bitCount_0f7a4_1 : decode cJ6_bitCount_0f7a4 1 = .ok (.iload_n 0, 1) := by decide +kernel
theorem dJ6_bitCount_0f7a4_2 : decode cJ6_bitCount_0f7a4 2 = .ok (.iconst 1, 1) := by decide +kernel
theorem dJ6_bitCount_0f7a4_3 : decode cJ6_bitCount_0f7a4 3 = .ok (.iushr, 1) := by decide +kernel
theorem dJ6_bitCount_0f7a4_4 : decode cJ6_bitCount_0f7a4 4 = .ok (.ldc_w 265, 3) := by decide +kernel
theorem dJ6_bitCount_0f7a4_7 : decode cJ6_bitCount_0f7a4 7 = .ok (.iand, 1) := by decide +kernel
theorem dJ6_bitCount_0f7a4_8 : decode cJ6_bitCount_0f7a4 8 = .ok (.isub, 1) := by decide +kernel
theorem dJ6_bitCount_0f7a4_9 : decode cJ6_bitCount_0f7a4 9 = .ok (.istore_n 0, 1) := by decide +kernel
theorem dJ6_bitCount_0f7a4_10 : decode cJ6_bitCount_0f7a4 10 = .ok (.iload_n 0, 1) := by decide +kernel
theorem dJ6_bitCount_0f7a4_11 : decode cJ6_bitCount_0f7a4 11 = .ok (.ldc_w 266, 3) := by decide +kernel
theorem dJ6_bitCount_0f7a4_14 : decode cJ6_bitCount_0f7a4 14 = .ok (.iand, 1) := by decide +kernel
theorem dJ6_bitCount_0f7a4_15 : decode cJ6_bitCount_0f7a4 15 = .ok (.iload_n 0, 1) := by decide +kernel
theorem dJ6_bitCount_0f7a4_16 : decode cJ6_bitCount_0f7a4 16 = .ok (.iconst 2, 1) := by decide +kernel
theorem dJ6_bitCount_0f7a4_17 : decode cJ6_bitCount_0f7a4 17 = .ok (.iushr, 1) := by decide +kernel
theorem dJ6_bitCount_0f7a4_18 : decode cJ6_bitCount_0f7a4 18 = .ok (.ldc_w 266, 3) := by decide +kernel
theorem dJ6_bitCount_0f7a4_21 : decode cJ6_bitCount_0f7a4 21 = .ok (.iand, 1) := by decide +kernel
theorem dJ6_bitCount_0f7a4_22 : decode cJ6_bitCount_0f7a4 22 = .ok (.iadd, 1) := by decide +kernel
theorem dJ6_bitCount_0f7a4_23 : decode cJ6_bitCount_0f7a4 23 = .ok (.istore_n 0, 1) := by decide +kernel
theorem dJ6_bitCount_0f7a4_24 : decode cJ6_bitCount_0f7a4 24 = .ok (.iload_n 0, 1) := by decide +kernel
theorem dJ6_bitCount_0f7a4_25 : decode cJ6_bitCount_0f7a4 25 = .ok (.iload_n 0, 1) := by decide +kernel
theorem dJ6_bitCount_0f7a4_26 : decode cJ6_bitCount_0f7a4 26 = .ok (.iconst 4, 1) := by decide +kernel
theorem dJ6_bitCount_0f7a4_27 : decode cJ6_bitCount_0f7a4 27 = .ok (.iushr, 1) := by decide +kernel
theorem dJ6_bitCount_0f7a4_28 : decode cJ6_bitCount_0f7a4 28 = .ok (.iadd, 1) := by decide +kernel
theorem dJ6_bitCount_0f7a4_29 : decode cJ6_bitCount_0f7a4 29 = .ok (.ldc_w 267, 3) := by decide +kernel
theorem dJ6_bitCount_0f7a4_32 : decode cJ6_bitCount_0f7a4 32 = .ok (.iand, 1) := by decide +kernel
theorem dJ6_bitCount_0f7a4_33 : decode cJ6_bitCount_0f7a4 33 = .ok (.istore_n 0, 1) := by decide +kernel
theorem dJ6_bitCount_0f7a4_34 : decode cJ6_bitCount_0f7a4 34 = .ok (.iload_n 0, 1) := by decide +kernel
theorem dJ6_bitCount_0f7a4_35 : decode cJ6_bitCount_0f7a4 35 = .ok (.iload_n 0, 1) := by decide +kernel
theorem dJ6_bitCount_0f7a4_36 : decode cJ6_bitCount_0f7a4 36 = .ok (.bipush 8, 2) := by decide +kernel
theorem dJ6_bitCount_0f7a4_38 : decode cJ6_bitCount_0f7a4 38 = .ok (.iushr, 1) := by decide +kernel
theorem dJ6_bitCount_0f7a4_39 : decode cJ6_bitCount_0f7a4 39 = .ok (.iadd, 1) := by decide +kernel
theorem dJ6_bitCount_0f7a4_40 : decode cJ6_bitCount_0f7a4 40 = .ok (.istore_n 0, 1) := by decide +kernel
theorem dJ6_bitCount_0f7a4_41 : decode cJ6_bitCount_0f7a4 41 = .ok (.iload_n 0, 1) := by decide +kernel
theorem dJ6_bitCount_0f7a4_42 : decode cJ6_bitCount_0f7a4 42 = .ok (.iload_n 0, 1) := by decide +kernel
theorem dJ6_bitCount_0f7a4_43 : decode cJ6_bitCount_0f7a4 43 = .ok (.bipush 16, 2) := by decide +kernel
theorem dJ6_bitCount_0f7a4_45 : decode cJ6_bitCount_0f7a4 45 = .ok (.iushr, 1) := by decide +kernel
theorem dJ6_bitCount_0f7a4_46 : decode cJ6_bitCount_0f7a4 46 = .ok (.iadd, 1) := by decide +kernel
theorem dJ6_bitCount_0f7a4_47 : decode cJ6_bitCount_0f7a4 47 = .ok (.istore_n 0, 1) := by decide +kernel
theorem dJ6_bitCount_0f7a4_48 : decode cJ6_bitCount_0f7a4 48 = .ok (.iload_n 0, 1) := by decide +kernel
theorem dJ6_bitCount_0f7a4_49 : decode cJ6_bitCount_0f7a4 49 = .ok (.bipush 63, 2) := by decide +kernel
theorem dJ6_bitCount_0f7a4_51 : decode cJ6_bitCount_0f7a4 51 = .ok (.iand, 1) := by decide +kernel
theorem dJ6_bitCount_0f7a4_52 : decode cJ6_bitCount_0f7a4 52 = .ok (.ireturn, 1) := by decide +kernel
theorem dJ9_min_7cf53_0 : decode cJ9_min_7cf53 0 = .ok (.iload_n 0, 1) := by decide +kernel
theorem dJ9_min_7cf53_1 : decode cJ9_min_7cf53 1 = .ok (.iload_n 1, 1) := by decide +kernel
theorem dJ9_min_7cf53_2 : decode cJ9_min_7cf53 2 = .ok (.if_icmp .gt 7, 3) := by decide +kernel
theorem dJ9_min_7cf53_5 : decode cJ9_min_7cf53 5 = .ok (.iload_n 0, 1) := by decide +kernel
theorem dJ9_min_7cf53_6 : decode cJ9_min_7cf53 6 = .ok (.goto 4, 3) := by decide +kernel
theorem dJ9_min_7cf53_9 : decode cJ9_min_7cf53 9 = .ok (.iload_n 1, 1) := by decide +kernel
theorem dJ9_min_7cf53_10 : decode cJ9_min_7cf53 10 = .ok (.ireturn, 1) := by decide +kernel
theorem dJ7_fill_53178_0 : decode cJ7_fill_53178 0 = .ok (.iconst 0, 1) := by decide +kernel
theorem dJ7_fill_53178_1 : decode cJ7_fill_53178 1 = .ok (.istore_n 2, 1) := by decide +kernel
theorem dJ7_fill_53178_2 : decode cJ7_fill_53178 2 = .ok (.aload_n 0, 1) := by decide +kernel
theorem dJ7_fill_53178_3 : decode cJ7_fill_53178 3 = .ok (.arraylength, 1) := by decide +kernel
theorem dJ7_fill_53178_4 : decode cJ7_fill_53178 4 = .ok (.istore_n 3, 1) := by decide +kernel
theorem dJ7_fill_53178_5 : decode cJ7_fill_53178 5 = .ok (.iload_n 2, 1) := by decide +kernel
theorem dJ7_fill_53178_6 : decode cJ7_fill_53178 6 = .ok (.iload_n 3, 1) := by decide +kernel
theorem dJ7_fill_53178_7 : decode cJ7_fill_53178 7 = .ok (.if_icmp .ge 13, 3) := by decide +kernel
theorem dJ7_fill_53178_10 : decode cJ7_fill_53178 10 = .ok (.aload_n 0, 1) := by decide +kernel
theorem dJ7_fill_53178_11 : decode cJ7_fill_53178 11 = .ok (.iload_n 2, 1) := by decide +kernel
theorem dJ7_fill_53178_12 : decode cJ7_fill_53178 12 = .ok (.iload_n 1, 1) := by decide +kernel
theorem dJ7_fill_53178_13 : decode cJ7_fill_53178 13 = .ok (.iastore, 1) := by decide +kernel
theorem dJ7_fill_53178_14 : decode cJ7_fill_53178 14 = .ok (.iinc 2 1, 3) := by decide +kernel
theorem dJ7_fill_53178_17 : decode cJ7_fill_53178 17 = .ok (.goto (-12), 3) := by decide +kernel
theorem dJ7_fill_53178_20 : decode cJ7_fill_53178 20 = .ok (.return_, 1) := by decide +kernel
theorem dL_law_0 : decode cL_law 0 = .ok (.new 7, 3) := by decide +kernel
theorem dL_law_3 : decode cL_law 3 = .ok (.dup, 1) := by decide +kernel
theorem dL_law_4 : decode cL_law 4 = .ok (.invokespecial 9, 3) := by decide +kernel
theorem dL_law_7 : decode cL_law 7 = .ok (.astore_n 1, 1) := by decide +kernel
theorem dL_law_8 : decode cL_law 8 = .ok (.new 10, 3) := by decide +kernel
theorem dL_law_11 : decode cL_law 11 = .ok (.dup, 1) := by decide +kernel
theorem dL_law_12 : decode cL_law 12 = .ok (.invokespecial 12, 3) := by decide +kernel
theorem dL_law_15 : decode cL_law 15 = .ok (.astore_n 2, 1) := by decide +kernel
theorem dL_law_16 : decode cL_law 16 = .ok (.iconst 0, 1) := by decide +kernel
theorem dL_law_17 : decode cL_law 17 = .ok (.istore_n 3, 1) := by decide +kernel
theorem dL_law_18 : decode cL_law 18 = .ok (.iload_n 3, 1) := by decide +kernel
theorem dL_law_19 : decode cL_law 19 = .ok (.aload_n 0, 1) := by decide +kernel
theorem dL_law_20 : decode cL_law 20 = .ok (.arraylength, 1) := by decide +kernel
theorem dL_law_21 : decode cL_law 21 = .ok (.iconst 5, 1) := by decide +kernel
theorem dL_law_22 : decode cL_law 22 = .ok (.isub, 1) := by decide +kernel
theorem dL_law_23 : decode cL_law 23 = .ok (.if_icmp .gt 1092, 3) := by decide +kernel
theorem dL_law_26 : decode cL_law 26 = .ok (.aload_n 0, 1) := by decide +kernel
theorem dL_law_27 : decode cL_law 27 = .ok (.iload_n 3, 1) := by decide +kernel
theorem dL_law_28 : decode cL_law 28 = .ok (.iaload, 1) := by decide +kernel
theorem dL_law_29 : decode cL_law 29 = .ok (.bipush 31, 2) := by decide +kernel
theorem dL_law_31 : decode cL_law 31 = .ok (.iand, 1) := by decide +kernel
theorem dL_law_32 : decode cL_law 32 = .ok (.tableswitch 1077 0 30 #[140, 183, 216, 269, 282, 295, 308, 341, 374, 407, 440, 453, 496, 550, 563, 596, 639, 672, 715, 758, 801, 824, 878, 901, 934, 947, 970, 1014, 1027, 1040, 1063], 140) := by decide +kernel
theorem dL_law_172 : decode cL_law 172 = .ok (.aload_n 1, 1) := by decide +kernel
theorem dL_law_173 : decode cL_law 173 = .ok (.aload_n 0, 1) := by decide +kernel
theorem dL_law_174 : decode cL_law 174 = .ok (.iload_n 3, 1) := by decide +kernel
theorem dL_law_175 : decode cL_law 175 = .ok (.iconst 1, 1) := by decide +kernel
theorem dL_law_176 : decode cL_law 176 = .ok (.iadd, 1) := by decide +kernel
theorem dL_law_177 : decode cL_law 177 = .ok (.iaload, 1) := by decide +kernel
theorem dL_law_178 : decode cL_law 178 = .ok (.aload_n 0, 1) := by decide +kernel
theorem dL_law_179 : decode cL_law 179 = .ok (.iload_n 3, 1) := by decide +kernel
theorem dL_law_180 : decode cL_law 180 = .ok (.iconst 2, 1) := by decide +kernel
theorem dL_law_181 : decode cL_law 181 = .ok (.iadd, 1) := by decide +kernel
theorem dL_law_182 : decode cL_law 182 = .ok (.iaload, 1) := by decide +kernel
theorem dL_law_183 : decode cL_law 183 = .ok (.aload_n 0, 1) := by decide +kernel
theorem dL_law_184 : decode cL_law 184 = .ok (.iload_n 3, 1) := by decide +kernel
theorem dL_law_185 : decode cL_law 185 = .ok (.iconst 3, 1) := by decide +kernel
theorem dL_law_186 : decode cL_law 186 = .ok (.iadd, 1) := by decide +kernel
theorem dL_law_187 : decode cL_law 187 = .ok (.iaload, 1) := by decide +kernel
theorem dL_law_188 : decode cL_law 188 = .ok (.invokevirtual 13, 3) := by decide +kernel
theorem dL_law_191 : decode cL_law 191 = .ok (.aload_n 2, 1) := by decide +kernel
theorem dL_law_192 : decode cL_law 192 = .ok (.aload_n 0, 1) := by decide +kernel
theorem dL_law_193 : decode cL_law 193 = .ok (.iload_n 3, 1) := by decide +kernel
theorem dL_law_194 : decode cL_law 194 = .ok (.iconst 1, 1) := by decide +kernel
theorem dL_law_195 : decode cL_law 195 = .ok (.iadd, 1) := by decide +kernel
theorem dL_law_196 : decode cL_law 196 = .ok (.iaload, 1) := by decide +kernel
theorem dL_law_197 : decode cL_law 197 = .ok (.aload_n 0, 1) := by decide +kernel
theorem dL_law_198 : decode cL_law 198 = .ok (.iload_n 3, 1) := by decide +kernel
theorem dL_law_199 : decode cL_law 199 = .ok (.iconst 2, 1) := by decide +kernel
theorem dL_law_200 : decode cL_law 200 = .ok (.iadd, 1) := by decide +kernel
theorem dL_law_201 : decode cL_law 201 = .ok (.iaload, 1) := by decide +kernel
theorem dL_law_202 : decode cL_law 202 = .ok (.aload_n 0, 1) := by decide +kernel
theorem dL_law_203 : decode cL_law 203 = .ok (.iload_n 3, 1) := by decide +kernel
theorem dL_law_204 : decode cL_law 204 = .ok (.iconst 3, 1) := by decide +kernel
theorem dL_law_205 : decode cL_law 205 = .ok (.iadd, 1) := by decide +kernel
theorem dL_law_206 : decode cL_law 206 = .ok (.iaload, 1) := by decide +kernel
theorem dL_law_207 : decode cL_law 207 = .ok (.invokevirtual 17, 3) := by decide +kernel
theorem dL_law_210 : decode cL_law 210 = .ok (.if_icmp .eq 899, 3) := by decide +kernel
theorem dL_law_213 : decode cL_law 213 = .ok (.iconst 0, 1) := by decide +kernel
theorem dL_law_214 : decode cL_law 214 = .ok (.ireturn, 1) := by decide +kernel
theorem dL_law_215 : decode cL_law 215 = .ok (.aload_n 1, 1) := by decide +kernel
theorem dL_law_216 : decode cL_law 216 = .ok (.aload_n 0, 1) := by decide +kernel
theorem dL_law_217 : decode cL_law 217 = .ok (.iload_n 3, 1) := by decide +kernel
theorem dL_law_218 : decode cL_law 218 = .ok (.iconst 1, 1) := by decide +kernel
theorem dL_law_219 : decode cL_law 219 = .ok (.iadd, 1) := by decide +kernel
theorem dL_law_220 : decode cL_law 220 = .ok (.iaload, 1) := by decide +kernel
theorem dL_law_221 : decode cL_law 221 = .ok (.aload_n 0, 1) := by decide +kernel
theorem dL_law_222 : decode cL_law 222 = .ok (.iload_n 3, 1) := by decide +kernel
theorem dL_law_223 : decode cL_law 223 = .ok (.iconst 2, 1) := by decide +kernel
theorem dL_law_224 : decode cL_law 224 = .ok (.iadd, 1) := by decide +kernel
theorem dL_law_225 : decode cL_law 225 = .ok (.iaload, 1) := by decide +kernel
theorem dL_law_226 : decode cL_law 226 = .ok (.invokevirtual 18, 3) := by decide +kernel
theorem dL_law_229 : decode cL_law 229 = .ok (.aload_n 2, 1) := by decide +kernel
theorem dL_law_230 : decode cL_law 230 = .ok (.aload_n 0, 1) := by decide +kernel
theorem dL_law_231 : decode cL_law 231 = .ok (.iload_n 3, 1) := by decide +kernel
theorem dL_law_232 : decode cL_law 232 = .ok (.iconst 1, 1) := by decide +kernel
theorem dL_law_233 : decode cL_law 233 = .ok (.iadd, 1) := by decide +kernel
theorem dL_law_234 : decode cL_law 234 = .ok (.iaload, 1) := by decide +kernel
theorem dL_law_235 : decode cL_law 235 = .ok (.aload_n 0, 1) := by decide +kernel
theorem dL_law_236 : decode cL_law 236 = .ok (.iload_n 3, 1) := by decide +kernel
theorem dL_law_237 : decode cL_law 237 = .ok (.iconst 2, 1) := by decide +kernel
theorem dL_law_238 : decode cL_law 238 = .ok (.iadd, 1) := by decide +kernel
theorem dL_law_239 : decode cL_law 239 = .ok (.iaload, 1) := by decide +kernel
theorem dL_law_240 : decode cL_law 240 = .ok (.invokevirtual 22, 3) := by decide +kernel
theorem dL_law_243 : decode cL_law 243 = .ok (.if_icmp .eq 866, 3) := by decide +kernel
theorem dL_law_246 : decode cL_law 246 = .ok (.iconst 0, 1) := by decide +kernel
theorem dL_law_247 : decode cL_law 247 = .ok (.ireturn, 1) := by decide +kernel
theorem dL_law_248 : decode cL_law 248 = .ok (.aload_n 1, 1) := by decide +kernel
theorem dL_law_249 : decode cL_law 249 = .ok (.aload_n 0, 1) := by decide +kernel
theorem dL_law_250 : decode cL_law 250 = .ok (.iload_n 3, 1) := by decide +kernel
theorem dL_law_251 : decode cL_law 251 = .ok (.iconst 1, 1) := by decide +kernel
theorem dL_law_252 : decode cL_law 252 = .ok (.iadd, 1) := by decide +kernel
theorem dL_law_253 : decode cL_law 253 = .ok (.iaload, 1) := by decide +kernel
theorem dL_law_254 : decode cL_law 254 = .ok (.i2l, 1) := by decide +kernel
theorem dL_law_255 : decode cL_law 255 = .ok (.bipush 32, 2) := by decide +kernel
theorem dL_law_257 : decode cL_law 257 = .ok (.lshl, 1) := by decide +kernel
theorem dL_law_258 : decode cL_law 258 = .ok (.aload_n 0, 1) := by decide +kernel
theorem dL_law_259 : decode cL_law 259 = .ok (.iload_n 3, 1) := by decide +kernel
theorem dL_law_260 : decode cL_law 260 = .ok (.iconst 2, 1) := by decide +kernel
theorem dL_law_261 : decode cL_law 261 = .ok (.iadd, 1) := by decide +kernel
theorem dL_law_262 : decode cL_law 262 = .ok (.iaload, 1) := by decide +kernel
theorem dL_law_263 : decode cL_law 263 = .ok (.i2l, 1) := by decide +kernel
theorem dL_law_264 : decode cL_law 264 = .ok (.ldc2_w 23, 3) := by decide +kernel
theorem dL_law_267 : decode cL_law 267 = .ok (.land, 1) := by decide +kernel
theorem dL_law_268 : decode cL_law 268 = .ok (.lor, 1) := by decide +kernel
theorem dL_law_269 : decode cL_law 269 = .ok (.invokevirtual 25, 3) := by decide +kernel
theorem dL_law_272 : decode cL_law 272 = .ok (.aload_n 2, 1) := by decide +kernel
theorem dL_law_273 : decode cL_law 273 = .ok (.aload_n 0, 1) := by decide +kernel
theorem dL_law_274 : decode cL_law 274 = .ok (.iload_n 3, 1) := by decide +kernel
theorem dL_law_275 : decode cL_law 275 = .ok (.iconst 1, 1) := by decide +kernel
theorem dL_law_276 : decode cL_law 276 = .ok (.iadd, 1) := by decide +kernel
theorem dL_law_277 : decode cL_law 277 = .ok (.iaload, 1) := by decide +kernel
theorem dL_law_278 : decode cL_law 278 = .ok (.i2l, 1) := by decide +kernel
theorem dL_law_279 : decode cL_law 279 = .ok (.bipush 32, 2) := by decide +kernel
theorem dL_law_281 : decode cL_law 281 = .ok (.lshl, 1) := by decide +kernel
theorem dL_law_282 : decode cL_law 282 = .ok (.aload_n 0, 1) := by decide +kernel
theorem dL_law_283 : decode cL_law 283 = .ok (.iload_n 3, 1) := by decide +kernel
theorem dL_law_284 : decode cL_law 284 = .ok (.iconst 2, 1) := by decide +kernel
theorem dL_law_285 : decode cL_law 285 = .ok (.iadd, 1) := by decide +kernel
theorem dL_law_286 : decode cL_law 286 = .ok (.iaload, 1) := by decide +kernel
theorem dL_law_287 : decode cL_law 287 = .ok (.i2l, 1) := by decide +kernel
theorem dL_law_288 : decode cL_law 288 = .ok (.ldc2_w 23, 3) := by decide +kernel
theorem dL_law_291 : decode cL_law 291 = .ok (.land, 1) := by decide +kernel
theorem dL_law_292 : decode cL_law 292 = .ok (.lor, 1) := by decide +kernel
theorem dL_law_293 : decode cL_law 293 = .ok (.invokevirtual 29, 3) := by decide +kernel
theorem dL_law_296 : decode cL_law 296 = .ok (.if_icmp .eq 813, 3) := by decide +kernel
theorem dL_law_299 : decode cL_law 299 = .ok (.iconst 0, 1) := by decide +kernel
theorem dL_law_300 : decode cL_law 300 = .ok (.ireturn, 1) := by decide +kernel
theorem dL_law_301 : decode cL_law 301 = .ok (.aload_n 1, 1) := by decide +kernel
theorem dL_law_302 : decode cL_law 302 = .ok (.invokevirtual 30, 3) := by decide +kernel
theorem dL_law_305 : decode cL_law 305 = .ok (.aload_n 2, 1) := by decide +kernel
theorem dL_law_306 : decode cL_law 306 = .ok (.invokevirtual 34, 3) := by decide +kernel
theorem dL_law_309 : decode cL_law 309 = .ok (.if_icmp .eq 800, 3) := by decide +kernel
theorem dL_law_312 : decode cL_law 312 = .ok (.iconst 0, 1) := by decide +kernel
theorem dL_law_313 : decode cL_law 313 = .ok (.ireturn, 1) := by decide +kernel
theorem dL_law_314 : decode cL_law 314 = .ok (.aload_n 1, 1) := by decide +kernel
theorem dL_law_315 : decode cL_law 315 = .ok (.invokevirtual 35, 3) := by decide +kernel
theorem dL_law_318 : decode cL_law 318 = .ok (.aload_n 2, 1) := by decide +kernel
theorem dL_law_319 : decode cL_law 319 = .ok (.invokevirtual 38, 3) := by decide +kernel
theorem dL_law_322 : decode cL_law 322 = .ok (.if_icmp .eq 787, 3) := by decide +kernel
theorem dL_law_325 : decode cL_law 325 = .ok (.iconst 0, 1) := by decide +kernel
theorem dL_law_326 : decode cL_law 326 = .ok (.ireturn, 1) := by decide +kernel
theorem dL_law_327 : decode cL_law 327 = .ok (.aload_n 1, 1) := by decide +kernel
theorem dL_law_328 : decode cL_law 328 = .ok (.invokevirtual 39, 3) := by decide +kernel
theorem dL_law_331 : decode cL_law 331 = .ok (.aload_n 2, 1) := by decide +kernel
theorem dL_law_332 : decode cL_law 332 = .ok (.invokevirtual 42, 3) := by decide +kernel
theorem dL_law_335 : decode cL_law 335 = .ok (.if_icmp .eq 774, 3) := by decide +kernel
theorem dL_law_338 : decode cL_law 338 = .ok (.iconst 0, 1) := by decide +kernel
theorem dL_law_339 : decode cL_law 339 = .ok (.ireturn, 1) := by decide +kernel
theorem dL_law_340 : decode cL_law 340 = .ok (.aload_n 1, 1) := by decide +kernel
theorem dL_law_341 : decode cL_law 341 = .ok (.aload_n 0, 1) := by decide +kernel
theorem dL_law_342 : decode cL_law 342 = .ok (.iload_n 3, 1) := by decide +kernel
theorem dL_law_343 : decode cL_law 343 = .ok (.iconst 1, 1) := by decide +kernel
theorem dL_law_344 : decode cL_law 344 = .ok (.iadd, 1) := by decide +kernel
theorem dL_law_345 : decode cL_law 345 = .ok (.iaload, 1) := by decide +kernel
theorem dL_law_346 : decode cL_law 346 = .ok (.aload_n 0, 1) := by decide +kernel
theorem dL_law_347 : decode cL_law 347 = .ok (.iload_n 3, 1) := by decide +kernel
theorem dL_law_348 : decode cL_law 348 = .ok (.iconst 2, 1) := by decide +kernel
theorem dL_law_349 : decode cL_law 349 = .ok (.iadd, 1) := by decide +kernel
theorem dL_law_350 : decode cL_law 350 = .ok (.iaload, 1) := by decide +kernel
theorem dL_law_351 : decode cL_law 351 = .ok (.invokevirtual 43, 3) := by decide +kernel
theorem dL_law_354 : decode cL_law 354 = .ok (.aload_n 2, 1) := by decide +kernel
theorem dL_law_355 : decode cL_law 355 = .ok (.aload_n 0, 1) := by decide +kernel
theorem dL_law_356 : decode cL_law 356 = .ok (.iload_n 3, 1) := by decide +kernel
theorem dL_law_357 : decode cL_law 357 = .ok (.iconst 1, 1) := by decide +kernel
theorem dL_law_358 : decode cL_law 358 = .ok (.iadd, 1) := by decide +kernel
theorem dL_law_359 : decode cL_law 359 = .ok (.iaload, 1) := by decide +kernel
theorem dL_law_360 : decode cL_law 360 = .ok (.aload_n 0, 1) := by decide +kernel
theorem dL_law_361 : decode cL_law 361 = .ok (.iload_n 3, 1) := by decide +kernel
theorem dL_law_362 : decode cL_law 362 = .ok (.iconst 2, 1) := by decide +kernel
theorem dL_law_363 : decode cL_law 363 = .ok (.iadd, 1) := by decide +kernel
theorem dL_law_364 : decode cL_law 364 = .ok (.iaload, 1) := by decide +kernel
theorem dL_law_365 : decode cL_law 365 = .ok (.invokevirtual 46, 3) := by decide +kernel
theorem dL_law_368 : decode cL_law 368 = .ok (.if_icmp .eq 741, 3) := by decide +kernel
theorem dL_law_371 : decode cL_law 371 = .ok (.iconst 0, 1) := by decide +kernel
theorem dL_law_372 : decode cL_law 372 = .ok (.ireturn, 1) := by decide +kernel
theorem dL_law_373 : decode cL_law 373 = .ok (.aload_n 1, 1) := by decide +kernel
theorem dL_law_374 : decode cL_law 374 = .ok (.aload_n 0, 1) := by decide +kernel
theorem dL_law_375 : decode cL_law 375 = .ok (.iload_n 3, 1) := by decide +kernel
theorem dL_law_376 : decode cL_law 376 = .ok (.iconst 1, 1) := by decide +kernel
theorem dL_law_377 : decode cL_law 377 = .ok (.iadd, 1) := by decide +kernel
theorem dL_law_378 : decode cL_law 378 = .ok (.iaload, 1) := by decide +kernel
theorem dL_law_379 : decode cL_law 379 = .ok (.aload_n 0, 1) := by decide +kernel
theorem dL_law_380 : decode cL_law 380 = .ok (.iload_n 3, 1) := by decide +kernel
theorem dL_law_381 : decode cL_law 381 = .ok (.iconst 2, 1) := by decide +kernel
theorem dL_law_382 : decode cL_law 382 = .ok (.iadd, 1) := by decide +kernel
theorem dL_law_383 : decode cL_law 383 = .ok (.iaload, 1) := by decide +kernel
theorem dL_law_384 : decode cL_law 384 = .ok (.invokevirtual 47, 3) := by decide +kernel
theorem dL_law_387 : decode cL_law 387 = .ok (.aload_n 2, 1) := by decide +kernel
theorem dL_law_388 : decode cL_law 388 = .ok (.aload_n 0, 1) := by decide +kernel
theorem dL_law_389 : decode cL_law 389 = .ok (.iload_n 3, 1) := by decide +kernel
theorem dL_law_390 : decode cL_law 390 = .ok (.iconst 1, 1) := by decide +kernel
theorem dL_law_391 : decode cL_law 391 = .ok (.iadd, 1) := by decide +kernel
theorem dL_law_392 : decode cL_law 392 = .ok (.iaload, 1) := by decide +kernel
theorem dL_law_393 : decode cL_law 393 = .ok (.aload_n 0, 1) := by decide +kernel
theorem dL_law_394 : decode cL_law 394 = .ok (.iload_n 3, 1) := by decide +kernel
theorem dL_law_395 : decode cL_law 395 = .ok (.iconst 2, 1) := by decide +kernel
theorem dL_law_396 : decode cL_law 396 = .ok (.iadd, 1) := by decide +kernel
theorem dL_law_397 : decode cL_law 397 = .ok (.iaload, 1) := by decide +kernel
theorem dL_law_398 : decode cL_law 398 = .ok (.invokevirtual 50, 3) := by decide +kernel
theorem dL_law_401 : decode cL_law 401 = .ok (.if_icmp .eq 708, 3) := by decide +kernel
theorem dL_law_404 : decode cL_law 404 = .ok (.iconst 0, 1) := by decide +kernel
theorem dL_law_405 : decode cL_law 405 = .ok (.ireturn, 1) := by decide +kernel
theorem dL_law_406 : decode cL_law 406 = .ok (.aload_n 1, 1) := by decide +kernel
theorem dL_law_407 : decode cL_law 407 = .ok (.aload_n 0, 1) := by decide +kernel
theorem dL_law_408 : decode cL_law 408 = .ok (.iload_n 3, 1) := by decide +kernel
theorem dL_law_409 : decode cL_law 409 = .ok (.iconst 1, 1) := by decide +kernel
theorem dL_law_410 : decode cL_law 410 = .ok (.iadd, 1) := by decide +kernel
theorem dL_law_411 : decode cL_law 411 = .ok (.iaload, 1) := by decide +kernel
theorem dL_law_412 : decode cL_law 412 = .ok (.aload_n 0, 1) := by decide +kernel
theorem dL_law_413 : decode cL_law 413 = .ok (.iload_n 3, 1) := by decide +kernel
theorem dL_law_414 : decode cL_law 414 = .ok (.iconst 2, 1) := by decide +kernel
theorem dL_law_415 : decode cL_law 415 = .ok (.iadd, 1) := by decide +kernel
theorem dL_law_416 : decode cL_law 416 = .ok (.iaload, 1) := by decide +kernel
theorem dL_law_417 : decode cL_law 417 = .ok (.invokevirtual 51, 3) := by decide +kernel
theorem dL_law_420 : decode cL_law 420 = .ok (.aload_n 2, 1) := by decide +kernel
theorem dL_law_421 : decode cL_law 421 = .ok (.aload_n 0, 1) := by decide +kernel
theorem dL_law_422 : decode cL_law 422 = .ok (.iload_n 3, 1) := by decide +kernel
theorem dL_law_423 : decode cL_law 423 = .ok (.iconst 1, 1) := by decide +kernel
theorem dL_law_424 : decode cL_law 424 = .ok (.iadd, 1) := by decide +kernel
theorem dL_law_425 : decode cL_law 425 = .ok (.iaload, 1) := by decide +kernel
theorem dL_law_426 : decode cL_law 426 = .ok (.aload_n 0, 1) := by decide +kernel
theorem dL_law_427 : decode cL_law 427 = .ok (.iload_n 3, 1) := by decide +kernel
theorem dL_law_428 : decode cL_law 428 = .ok (.iconst 2, 1) := by decide +kernel
theorem dL_law_429 : decode cL_law 429 = .ok (.iadd, 1) := by decide +kernel
theorem dL_law_430 : decode cL_law 430 = .ok (.iaload, 1) := by decide +kernel
theorem dL_law_431 : decode cL_law 431 = .ok (.invokevirtual 54, 3) := by decide +kernel
theorem dL_law_434 : decode cL_law 434 = .ok (.if_icmp .eq 675, 3) := by decide +kernel
theorem dL_law_437 : decode cL_law 437 = .ok (.iconst 0, 1) := by decide +kernel
theorem dL_law_438 : decode cL_law 438 = .ok (.ireturn, 1) := by decide +kernel
theorem dL_law_439 : decode cL_law 439 = .ok (.aload_n 1, 1) := by decide +kernel
theorem dL_law_440 : decode cL_law 440 = .ok (.aload_n 0, 1) := by decide +kernel
theorem dL_law_441 : decode cL_law 441 = .ok (.iload_n 3, 1) := by decide +kernel
theorem dL_law_442 : decode cL_law 442 = .ok (.iconst 1, 1) := by decide +kernel
theorem dL_law_443 : decode cL_law 443 = .ok (.iadd, 1) := by decide +kernel
theorem dL_law_444 : decode cL_law 444 = .ok (.iaload, 1) := by decide +kernel
theorem dL_law_445 : decode cL_law 445 = .ok (.aload_n 0, 1) := by decide +kernel
theorem dL_law_446 : decode cL_law 446 = .ok (.iload_n 3, 1) := by decide +kernel
theorem dL_law_447 : decode cL_law 447 = .ok (.iconst 2, 1) := by decide +kernel
theorem dL_law_448 : decode cL_law 448 = .ok (.iadd, 1) := by decide +kernel
theorem dL_law_449 : decode cL_law 449 = .ok (.iaload, 1) := by decide +kernel
theorem dL_law_450 : decode cL_law 450 = .ok (.invokevirtual 55, 3) := by decide +kernel
theorem dL_law_453 : decode cL_law 453 = .ok (.aload_n 2, 1) := by decide +kernel
theorem dL_law_454 : decode cL_law 454 = .ok (.aload_n 0, 1) := by decide +kernel
theorem dL_law_455 : decode cL_law 455 = .ok (.iload_n 3, 1) := by decide +kernel
theorem dL_law_456 : decode cL_law 456 = .ok (.iconst 1, 1) := by decide +kernel
theorem dL_law_457 : decode cL_law 457 = .ok (.iadd, 1) := by decide +kernel
theorem dL_law_458 : decode cL_law 458 = .ok (.iaload, 1) := by decide +kernel
theorem dL_law_459 : decode cL_law 459 = .ok (.aload_n 0, 1) := by decide +kernel
theorem dL_law_460 : decode cL_law 460 = .ok (.iload_n 3, 1) := by decide +kernel
theorem dL_law_461 : decode cL_law 461 = .ok (.iconst 2, 1) := by decide +kernel
theorem dL_law_462 : decode cL_law 462 = .ok (.iadd, 1) := by decide +kernel
theorem dL_law_463 : decode cL_law 463 = .ok (.iaload, 1) := by decide +kernel
theorem dL_law_464 : decode cL_law 464 = .ok (.invokevirtual 58, 3) := by decide +kernel
theorem dL_law_467 : decode cL_law 467 = .ok (.if_icmp .eq 642, 3) := by decide +kernel
theorem dL_law_470 : decode cL_law 470 = .ok (.iconst 0, 1) := by decide +kernel
theorem dL_law_471 : decode cL_law 471 = .ok (.ireturn, 1) := by decide +kernel
theorem dL_law_472 : decode cL_law 472 = .ok (.aload_n 1, 1) := by decide +kernel
theorem dL_law_473 : decode cL_law 473 = .ok (.invokevirtual 59, 3) := by decide +kernel
theorem dL_law_476 : decode cL_law 476 = .ok (.aload_n 2, 1) := by decide +kernel
theorem dL_law_477 : decode cL_law 477 = .ok (.invokevirtual 62, 3) := by decide +kernel
theorem dL_law_480 : decode cL_law 480 = .ok (.if_icmp .eq 629, 3) := by decide +kernel
theorem dL_law_483 : decode cL_law 483 = .ok (.iconst 0, 1) := by decide +kernel
theorem dL_law_484 : decode cL_law 484 = .ok (.ireturn, 1) := by decide +kernel
theorem dL_law_485 : decode cL_law 485 = .ok (.aload_n 1, 1) := by decide +kernel
theorem dL_law_486 : decode cL_law 486 = .ok (.aload_n 0, 1) := by decide +kernel
theorem dL_law_487 : decode cL_law 487 = .ok (.iload_n 3, 1) := by decide +kernel
theorem dL_law_488 : decode cL_law 488 = .ok (.iconst 1, 1) := by decide +kernel
theorem dL_law_489 : decode cL_law 489 = .ok (.iadd, 1) := by decide +kernel
theorem dL_law_490 : decode cL_law 490 = .ok (.iaload, 1) := by decide +kernel
theorem dL_law_491 : decode cL_law 491 = .ok (.aload_n 0, 1) := by decide +kernel
theorem dL_law_492 : decode cL_law 492 = .ok (.iload_n 3, 1) := by decide +kernel
theorem dL_law_493 : decode cL_law 493 = .ok (.iconst 2, 1) := by decide +kernel
theorem dL_law_494 : decode cL_law 494 = .ok (.iadd, 1) := by decide +kernel
theorem dL_law_495 : decode cL_law 495 = .ok (.iaload, 1) := by decide +kernel
theorem dL_law_496 : decode cL_law 496 = .ok (.aload_n 0, 1) := by decide +kernel
theorem dL_law_497 : decode cL_law 497 = .ok (.iload_n 3, 1) := by decide +kernel
theorem dL_law_498 : decode cL_law 498 = .ok (.iconst 3, 1) := by decide +kernel
theorem dL_law_499 : decode cL_law 499 = .ok (.iadd, 1) := by decide +kernel
theorem dL_law_500 : decode cL_law 500 = .ok (.iaload, 1) := by decide +kernel
theorem dL_law_501 : decode cL_law 501 = .ok (.invokevirtual 63, 3) := by decide +kernel
theorem dL_law_504 : decode cL_law 504 = .ok (.aload_n 2, 1) := by decide +kernel
theorem dL_law_505 : decode cL_law 505 = .ok (.aload_n 0, 1) := by decide +kernel
theorem dL_law_506 : decode cL_law 506 = .ok (.iload_n 3, 1) := by decide +kernel
theorem dL_law_507 : decode cL_law 507 = .ok (.iconst 1, 1) := by decide +kernel
theorem dL_law_508 : decode cL_law 508 = .ok (.iadd, 1) := by decide +kernel
theorem dL_law_509 : decode cL_law 509 = .ok (.iaload, 1) := by decide +kernel

theorem dX10_digest_32 : decode cX10_digest 32 = .ok (.aload_n 0, 1) := by decide +kernel
theorem dX10_digest_33 : decode cX10_digest 33 = .ok (.lload_n 1, 1) := by decide +kernel
theorem dX10_digest_34 : decode cX10_digest 34 = .ok (.invokevirtual 270, 3) := by decide +kernel
theorem dX10_digest_37 : decode cX10_digest 37 = .ok (.lstore_n 1, 1) := by decide +kernel
theorem dX10_digest_38 : decode cX10_digest 38 = .ok (.aload_n 0, 1) := by decide +kernel
theorem dX10_digest_39 : decode cX10_digest 39 = .ok (.lload_n 1, 1) := by decide +kernel
theorem dX10_digest_40 : decode cX10_digest 40 = .ok (.invokevirtual 273, 3) := by decide +kernel
theorem dX10_digest_43 : decode cX10_digest 43 = .ok (.lstore_n 1, 1) := by decide +kernel
theorem dX10_digest_44 : decode cX10_digest 44 = .ok (.aload_n 0, 1) := by decide +kernel
theorem dX10_digest_45 : decode cX10_digest 45 = .ok (.lload_n 1, 1) := by decide +kernel
theorem dX10_digest_46 : decode cX10_digest 46 = .ok (.invokevirtual 276, 3) := by decide +kernel
theorem dX10_digest_49 : decode cX10_digest 49 = .ok (.lstore_n 1, 1) := by decide +kernel
theorem dX10_digest_50 : decode cX10_digest 50 = .ok (.iconst 0, 1) := by decide +kernel
theorem dX10_digest_51 : decode cX10_digest 51 = .ok (.istore_n 3, 1) := by decide +kernel
theorem dX10_digest_52 : decode cX10_digest 52 = .ok (.iload_n 3, 1) := by decide +kernel
theorem dX10_digest_53 : decode cX10_digest 53 = .ok (.bipush 9, 2) := by decide +kernel
theorem dX10_digest_55 : decode cX10_digest 55 = .ok (.if_icmp .ge 20, 3) := by decide +kernel
theorem dX10_digest_58 : decode cX10_digest 58 = .ok (.lload_n 1, 1) := by decide +kernel
theorem dX10_digest_59 : decode cX10_digest 59 = .ok (.aload_n 0, 1) := by decide +kernel
theorem dX10_digest_60 : decode cX10_digest 60 = .ok (.iload_n 3, 1) := by decide +kernel
theorem dX10_digest_61 : decode cX10_digest 61 = .ok (.invokevirtual 279, 3) := by decide +kernel
theorem dX10_digest_64 : decode cX10_digest 64 = .ok (.i2l, 1) := by decide +kernel
theorem dX10_digest_65 : decode cX10_digest 65 = .ok (.invokestatic 263, 3) := by decide +kernel
theorem dX10_digest_68 : decode cX10_digest 68 = .ok (.lstore_n 1, 1) := by decide +kernel
theorem dX10_digest_69 : decode cX10_digest 69 = .ok (.iinc 3 1, 3) := by decide +kernel
theorem dX10_digest_72 : decode cX10_digest 72 = .ok (.goto (-20), 3) := by decide +kernel
theorem dX10_digest_75 : decode cX10_digest 75 = .ok (.lload_n 1, 1) := by decide +kernel
theorem dX10_digest_76 : decode cX10_digest 76 = .ok (.lreturn, 1) := by decide +kernel
theorem dX10_mixBirths_0 : decode cX10_mixBirths 0 = .ok (.lload_n 1, 1) := by decide +kernel
theorem dX10_mixBirths_1 : decode cX10_mixBirths 1 = .ok (.lstore_n 3, 1) := by decide +kernel
theorem dX10_mixBirths_2 : decode cX10_mixBirths 2 = .ok (.iconst 0, 1) := by decide +kernel
theorem dX10_mixBirths_3 : decode cX10_mixBirths 3 = .ok (.istore 5, 2) := by decide +kernel
theorem dX10_mixBirths_5 : decode cX10_mixBirths 5 = .ok (.iload 5, 2) := by decide +kernel
theorem dX10_mixBirths_7 : decode cX10_mixBirths 7 = .ok (.aload_n 0, 1) := by decide +kernel
theorem dX10_mixBirths_8 : decode cX10_mixBirths 8 = .ok (.getfield 65, 3) := by decide +kernel
theorem dX10_mixBirths_11 : decode cX10_mixBirths 11 = .ok (.invokevirtual 114, 3) := by decide +kernel
theorem dX10_mixBirths_14 : decode cX10_mixBirths 14 = .ok (.if_icmp .ge 39, 3) := by decide +kernel
theorem dX10_mixBirths_17 : decode cX10_mixBirths 17 = .ok (.iconst 0, 1) := by decide +kernel
theorem dX10_mixBirths_18 : decode cX10_mixBirths 18 = .ok (.istore 6, 2) := by decide +kernel
theorem dX10_mixBirths_20 : decode cX10_mixBirths 20 = .ok (.iload 6, 2) := by decide +kernel
theorem dX10_mixBirths_22 : decode cX10_mixBirths 22 = .ok (.bipush 7, 2) := by decide +kernel
theorem dX10_mixBirths_24 : decode cX10_mixBirths 24 = .ok (.if_icmp .ge 23, 3) := by decide +kernel
theorem dX10_mixBirths_27 : decode cX10_mixBirths 27 = .ok (.lload_n 3, 1) := by decide +kernel
theorem dX10_mixBirths_28 : decode cX10_mixBirths 28 = .ok (.aload_n 0, 1) := by decide +kernel
theorem dX10_mixBirths_29 : decode cX10_mixBirths 29 = .ok (.iload 5, 2) := by decide +kernel
theorem dX10_mixBirths_31 : decode cX10_mixBirths 31 = .ok (.iload 6, 2) := by decide +kernel
theorem dX10_mixBirths_33 : decode cX10_mixBirths 33 = .ok (.invokevirtual 282, 3) := by decide +kernel
theorem dX10_mixBirths_36 : decode cX10_mixBirths 36 = .ok (.i2l, 1) := by decide +kernel
theorem dX10_mixBirths_37 : decode cX10_mixBirths 37 = .ok (.invokestatic 263, 3) := by decide +kernel
theorem dX10_mixBirths_40 : decode cX10_mixBirths 40 = .ok (.lstore_n 3, 1) := by decide +kernel
theorem dX10_mixBirths_41 : decode cX10_mixBirths 41 = .ok (.iinc 6 1, 3) := by decide +kernel
theorem dX10_mixBirths_44 : decode cX10_mixBirths 44 = .ok (.goto (-24), 3) := by decide +kernel
theorem dX10_mixBirths_47 : decode cX10_mixBirths 47 = .ok (.iinc 5 1, 3) := by decide +kernel
theorem dX10_mixBirths_50 : decode cX10_mixBirths 50 = .ok (.goto (-45), 3) := by decide +kernel
theorem dX10_mixBirths_53 : decode cX10_mixBirths 53 = .ok (.lload_n 3, 1) := by decide +kernel
theorem dX10_mixBirths_54 : decode cX10_mixBirths 54 = .ok (.lreturn, 1) := by decide +kernel
theorem dX10_mixPeople_0 : decode cX10_mixPeople 0 = .ok (.lload_n 1, 1) := by decide +kernel
theorem dX10_mixPeople_1 : decode cX10_mixPeople 1 = .ok (.lstore_n 3, 1) := by decide +kernel
theorem dX10_mixPeople_2 : decode cX10_mixPeople 2 = .ok (.iconst 0, 1) := by decide +kernel
theorem dX10_mixPeople_3 : decode cX10_mixPeople 3 = .ok (.istore 5, 2) := by decide +kernel
theorem dX10_mixPeople_5 : decode cX10_mixPeople 5 = .ok (.iload 5, 2) := by decide +kernel
theorem dX10_mixPeople_7 : decode cX10_mixPeople 7 = .ok (.bipush 10, 2) := by decide +kernel
theorem dX10_mixPeople_9 : decode cX10_mixPeople 9 = .ok (.if_icmp .ge 54, 3) := by decide +kernel
theorem dX10_mixPeople_12 : decode cX10_mixPeople 12 = .ok (.iconst 0, 1) := by decide +kernel
theorem dX10_mixPeople_13 : decode cX10_mixPeople 13 = .ok (.istore 6, 2) := by decide +kernel
theorem dX10_mixPeople_15 : decode cX10_mixPeople 15 = .ok (.iload 6, 2) := by decide +kernel
theorem dX10_mixPeople_17 : decode cX10_mixPeople 17 = .ok (.iconst 3, 1) := by decide +kernel
theorem dX10_mixPeople_18 : decode cX10_mixPeople 18 = .ok (.if_icmp .ge 23, 3) := by decide +kernel
theorem dX10_mixPeople_21 : decode cX10_mixPeople 21 = .ok (.lload_n 3, 1) := by decide +kernel
theorem dX10_mixPeople_22 : decode cX10_mixPeople 22 = .ok (.aload_n 0, 1) := by decide +kernel
theorem dX10_mixPeople_23 : decode cX10_mixPeople 23 = .ok (.iload 5, 2) := by decide +kernel
theorem dX10_mixPeople_25 : decode cX10_mixPeople 25 = .ok (.iload 6, 2) := by decide +kernel
theorem dX10_mixPeople_27 : decode cX10_mixPeople 27 = .ok (.invokevirtual 285, 3) := by decide +kernel
theorem dX10_mixPeople_30 : decode cX10_mixPeople 30 = .ok (.i2l, 1) := by decide +kernel
theorem dX10_mixPeople_31 : decode cX10_mixPeople 31 = .ok (.invokestatic 263, 3) := by decide +kernel
theorem dX10_mixPeople_34 : decode cX10_mixPeople 34 = .ok (.lstore_n 3, 1) := by decide +kernel
theorem dX10_mixPeople_35 : decode cX10_mixPeople 35 = .ok (.iinc 6 1, 3) := by decide +kernel
theorem dX10_mixPeople_38 : decode cX10_mixPeople 38 = .ok (.goto (-23), 3) := by decide +kernel
theorem dX10_mixPeople_41 : decode cX10_mixPeople 41 = .ok (.lload_n 3, 1) := by decide +kernel
theorem dX10_mixPeople_42 : decode cX10_mixPeople 42 = .ok (.aload_n 0, 1) := by decide +kernel
theorem dX10_mixPeople_43 : decode cX10_mixPeople 43 = .ok (.iload 5, 2) := by decide +kernel
theorem dX10_mixPeople_45 : decode cX10_mixPeople 45 = .ok (.iconst 0, 1) := by decide +kernel
theorem dX10_mixPeople_46 : decode cX10_mixPeople 46 = .ok (.sipush 1999, 3) := by decide +kernel
theorem dX10_mixPeople_49 : decode cX10_mixPeople 49 = .ok (.invokevirtual 288, 3) := by decide +kernel
theorem dX10_mixPeople_52 : decode cX10_mixPeople 52 = .ok (.i2l, 1) := by decide +kernel
theorem dX10_mixPeople_53 : decode cX10_mixPeople 53 = .ok (.invokestatic 263, 3) := by decide +kernel
theorem dX10_mixPeople_56 : decode cX10_mixPeople 56 = .ok (.lstore_n 3, 1) := by decide +kernel
theorem dX10_mixPeople_57 : decode cX10_mixPeople 57 = .ok (.iinc 5 1, 3) := by decide +kernel
theorem dX10_mixPeople_60 : decode cX10_mixPeople 60 = .ok (.goto (-55), 3) := by decide +kernel
theorem dX10_mixPeople_63 : decode cX10_mixPeople 63 = .ok (.lload_n 3, 1) := by decide +kernel
theorem dX10_mixPeople_64 : decode cX10_mixPeople 64 = .ok (.lreturn, 1) := by decide +kernel
theorem dX10_mixNews_0 : decode cX10_mixNews 0 = .ok (.lload_n 1, 1) := by decide +kernel
theorem dX10_mixNews_1 : decode cX10_mixNews 1 = .ok (.lstore_n 3, 1) := by decide +kernel
theorem dX10_mixNews_2 : decode cX10_mixNews 2 = .ok (.aload_n 0, 1) := by decide +kernel
theorem dX10_mixNews_3 : decode cX10_mixNews 3 = .ok (.getfield 26, 3) := by decide +kernel
theorem dX10_mixNews_6 : decode cX10_mixNews 6 = .ok (.aload_n 0, 1) := by decide +kernel
theorem dX10_mixNews_7 : decode cX10_mixNews 7 = .ok (.getfield 65, 3) := by decide +kernel
theorem dX10_mixNews_10 : decode cX10_mixNews 10 = .ok (.aload_n 0, 1) := by decide +kernel
theorem dX10_mixNews_11 : decode cX10_mixNews 11 = .ok (.getfield 58, 3) := by decide +kernel
theorem dX10_mixNews_14 : decode cX10_mixNews 14 = .ok (.iconst 0, 1) := by decide +kernel
theorem dX10_mixNews_15 : decode cX10_mixNews 15 = .ok (.invokevirtual 171, 3) := by decide +kernel
theorem dX10_mixNews_18 : decode cX10_mixNews 18 = .ok (.iconst 0, 1) := by decide +kernel
theorem dX10_mixNews_19 : decode cX10_mixNews 19 = .ok (.istore 5, 2) := by decide +kernel
theorem dX10_mixNews_21 : decode cX10_mixNews 21 = .ok (.iload 5, 2) := by decide +kernel
theorem dX10_mixNews_23 : decode cX10_mixNews 23 = .ok (.bipush 6, 2) := by decide +kernel
theorem dX10_mixNews_25 : decode cX10_mixNews 25 = .ok (.if_icmp .ge 42, 3) := by decide +kernel
theorem dX10_mixNews_28 : decode cX10_mixNews 28 = .ok (.iconst 0, 1) := by decide +kernel
theorem dX10_mixNews_29 : decode cX10_mixNews 29 = .ok (.istore 6, 2) := by decide +kernel
theorem dX10_mixNews_31 : decode cX10_mixNews 31 = .ok (.iload 6, 2) := by decide +kernel
theorem dX10_mixNews_33 : decode cX10_mixNews 33 = .ok (.bipush 6, 2) := by decide +kernel
theorem dX10_mixNews_35 : decode cX10_mixNews 35 = .ok (.if_icmp .ge 26, 3) := by decide +kernel
theorem dX10_mixNews_38 : decode cX10_mixNews 38 = .ok (.lload_n 3, 1) := by decide +kernel
theorem dX10_mixNews_39 : decode cX10_mixNews 39 = .ok (.aload_n 0, 1) := by decide +kernel
theorem dX10_mixNews_40 : decode cX10_mixNews 40 = .ok (.getfield 26, 3) := by decide +kernel
theorem dX10_mixNews_43 : decode cX10_mixNews 43 = .ok (.iload 5, 2) := by decide +kernel
theorem dX10_mixNews_45 : decode cX10_mixNews 45 = .ok (.iload 6, 2) := by decide +kernel
theorem dX10_mixNews_47 : decode cX10_mixNews 47 = .ok (.invokevirtual 175, 3) := by decide +kernel
theorem dX10_mixNews_50 : decode cX10_mixNews 50 = .ok (.i2l, 1) := by decide +kernel
theorem dX10_mixNews_51 : decode cX10_mixNews 51 = .ok (.invokestatic 263, 3) := by decide +kernel
theorem dX10_mixNews_54 : decode cX10_mixNews 54 = .ok (.lstore_n 3, 1) := by decide +kernel
theorem dX10_mixNews_55 : decode cX10_mixNews 55 = .ok (.iinc 6 1, 3) := by decide +kernel
theorem dX10_mixNews_58 : decode cX10_mixNews 58 = .ok (.goto (-27), 3) := by decide +kernel
theorem dX10_mixNews_61 : decode cX10_mixNews 61 = .ok (.iinc 5 1, 3) := by decide +kernel
theorem dX10_mixNews_64 : decode cX10_mixNews 64 = .ok (.goto (-43), 3) := by decide +kernel
theorem dX10_mixNews_67 : decode cX10_mixNews 67 = .ok (.lload_n 3, 1) := by decide +kernel
theorem dX10_mixNews_68 : decode cX10_mixNews 68 = .ok (.lreturn, 1) := by decide +kernel
theorem dX10_mixBook_0 : decode cX10_mixBook 0 = .ok (.lload_n 1, 1) := by decide +kernel
theorem dX10_mixBook_1 : decode cX10_mixBook 1 = .ok (.lstore_n 3, 1) := by decide +kernel
theorem dX10_mixBook_2 : decode cX10_mixBook 2 = .ok (.iconst 0, 1) := by decide +kernel
theorem dX10_mixBook_3 : decode cX10_mixBook 3 = .ok (.istore 5, 2) := by decide +kernel
theorem dX10_mixBook_5 : decode cX10_mixBook 5 = .ok (.iload 5, 2) := by decide +kernel
theorem dX10_mixBook_7 : decode cX10_mixBook 7 = .ok (.aload_n 0, 1) := by decide +kernel
theorem dX10_mixBook_8 : decode cX10_mixBook 8 = .ok (.getfield 33, 3) := by decide +kernel
theorem dX10_mixBook_11 : decode cX10_mixBook 11 = .ok (.invokevirtual 209, 3) := by decide +kernel
theorem dX10_mixBook_14 : decode cX10_mixBook 14 = .ok (.if_icmp .ge 24, 3) := by decide +kernel
theorem dX10_mixBook_17 : decode cX10_mixBook 17 = .ok (.lload_n 3, 1) := by decide +kernel
theorem dX10_mixBook_18 : decode cX10_mixBook 18 = .ok (.aload_n 0, 1) := by decide +kernel
theorem dX10_mixBook_19 : decode cX10_mixBook 19 = .ok (.getfield 33, 3) := by decide +kernel
theorem dX10_mixBook_22 : decode cX10_mixBook 22 = .ok (.iload 5, 2) := by decide +kernel
theorem dX10_mixBook_24 : decode cX10_mixBook 24 = .ok (.invokevirtual 291, 3) := by decide +kernel
theorem dX10_mixBook_27 : decode cX10_mixBook 27 = .ok (.i2l, 1) := by decide +kernel
theorem dX10_mixBook_28 : decode cX10_mixBook 28 = .ok (.invokestatic 263, 3) := by decide +kernel
theorem dX10_mixBook_31 : decode cX10_mixBook 31 = .ok (.lstore_n 3, 1) := by decide +kernel
theorem dX10_mixBook_32 : decode cX10_mixBook 32 = .ok (.iinc 5 1, 3) := by decide +kernel
theorem dX10_mixBook_35 : decode cX10_mixBook 35 = .ok (.goto (-30), 3) := by decide +kernel
theorem dX10_mixBook_38 : decode cX10_mixBook 38 = .ok (.lload_n 3, 1) := by decide +kernel
theorem dX10_mixBook_39 : decode cX10_mixBook 39 = .ok (.lreturn, 1) := by decide +kernel
theorem dX10_mixCrowd_0 : decode cX10_mixCrowd 0 = .ok (.lload_n 1, 1) := by decide +kernel
theorem dX10_mixCrowd_1 : decode cX10_mixCrowd 1 = .ok (.aload_n 0, 1) := by decide +kernel
theorem dX10_mixCrowd_2 : decode cX10_mixCrowd 2 = .ok (.getfield 40, 3) := by decide +kernel
theorem dX10_mixCrowd_5 : decode cX10_mixCrowd 5 = .ok (.invokevirtual 229, 3) := by decide +kernel
theorem dX10_mixCrowd_8 : decode cX10_mixCrowd 8 = .ok (.i2l, 1) := by decide +kernel
theorem dX10_mixCrowd_9 : decode cX10_mixCrowd 9 = .ok (.invokestatic 263, 3) := by decide +kernel
theorem dX10_mixCrowd_12 : decode cX10_mixCrowd 12 = .ok (.lstore_n 3, 1) := by decide +kernel
theorem dX10_mixCrowd_13 : decode cX10_mixCrowd 13 = .ok (.iconst 0, 1) := by decide +kernel
theorem dX10_mixCrowd_14 : decode cX10_mixCrowd 14 = .ok (.istore 5, 2) := by decide +kernel
theorem dX10_mixCrowd_16 : decode cX10_mixCrowd 16 = .ok (.iload 5, 2) := by decide +kernel
theorem dX10_mixCrowd_18 : decode cX10_mixCrowd 18 = .ok (.aload_n 0, 1) := by decide +kernel
theorem dX10_mixCrowd_19 : decode cX10_mixCrowd 19 = .ok (.getfield 40, 3) := by decide +kernel
theorem dX10_mixCrowd_22 : decode cX10_mixCrowd 22 = .ok (.invokevirtual 223, 3) := by decide +kernel
theorem dX10_mixCrowd_25 : decode cX10_mixCrowd 25 = .ok (.if_icmp .ge 24, 3) := by decide +kernel
theorem dX10_mixCrowd_28 : decode cX10_mixCrowd 28 = .ok (.lload_n 3, 1) := by decide +kernel
theorem dX10_mixCrowd_29 : decode cX10_mixCrowd 29 = .ok (.aload_n 0, 1) := by decide +kernel
theorem dX10_mixCrowd_30 : decode cX10_mixCrowd 30 = .ok (.getfield 40, 3) := by decide +kernel
theorem dX10_mixCrowd_33 : decode cX10_mixCrowd 33 = .ok (.iload 5, 2) := by decide +kernel
theorem dX10_mixCrowd_35 : decode cX10_mixCrowd 35 = .ok (.invokevirtual 232, 3) := by decide +kernel
theorem dX10_mixCrowd_38 : decode cX10_mixCrowd 38 = .ok (.i2l, 1) := by decide +kernel
theorem dX10_mixCrowd_39 : decode cX10_mixCrowd 39 = .ok (.invokestatic 263, 3) := by decide +kernel
theorem dX10_mixCrowd_42 : decode cX10_mixCrowd 42 = .ok (.lstore_n 3, 1) := by decide +kernel
theorem dX10_mixCrowd_43 : decode cX10_mixCrowd 43 = .ok (.iinc 5 1, 3) := by decide +kernel
theorem dX10_mixCrowd_46 : decode cX10_mixCrowd 46 = .ok (.goto (-30), 3) := by decide +kernel
theorem dX10_mixCrowd_49 : decode cX10_mixCrowd 49 = .ok (.lload_n 3, 1) := by decide +kernel
theorem dX10_mixCrowd_50 : decode cX10_mixCrowd 50 = .ok (.lreturn, 1) := by decide +kernel
theorem dX10_mixPage_0 : decode cX10_mixPage 0 = .ok (.lload_n 1, 1) := by decide +kernel
theorem dX10_mixPage_1 : decode cX10_mixPage 1 = .ok (.lstore_n 3, 1) := by decide +kernel
theorem dX10_mixPage_2 : decode cX10_mixPage 2 = .ok (.iconst 0, 1) := by decide +kernel
theorem dX10_mixPage_3 : decode cX10_mixPage 3 = .ok (.istore 5, 2) := by decide +kernel
theorem dX10_mixPage_5 : decode cX10_mixPage 5 = .ok (.iload 5, 2) := by decide +kernel
theorem dX10_mixPage_7 : decode cX10_mixPage 7 = .ok (.aload_n 0, 1) := by decide +kernel
theorem dX10_mixPage_8 : decode cX10_mixPage 8 = .ok (.getfield 10, 3) := by decide +kernel
theorem dX10_mixPage_11 : decode cX10_mixPage 11 = .ok (.invokevirtual 91, 3) := by decide +kernel
theorem dX10_mixPage_14 : decode cX10_mixPage 14 = .ok (.if_icmp .ge 24, 3) := by decide +kernel
theorem dX10_mixPage_17 : decode cX10_mixPage 17 = .ok (.lload_n 3, 1) := by decide +kernel
theorem dX10_mixPage_18 : decode cX10_mixPage 18 = .ok (.aload_n 0, 1) := by decide +kernel
theorem dX10_mixPage_19 : decode cX10_mixPage 19 = .ok (.getfield 10, 3) := by decide +kernel
theorem dX10_mixPage_22 : decode cX10_mixPage 22 = .ok (.iload 5, 2) := by decide +kernel
theorem dX10_mixPage_24 : decode cX10_mixPage 24 = .ok (.invokevirtual 294, 3) := by decide +kernel
theorem dX10_mixPage_27 : decode cX10_mixPage 27 = .ok (.i2l, 1) := by decide +kernel
theorem dX10_mixPage_28 : decode cX10_mixPage 28 = .ok (.invokestatic 263, 3) := by decide +kernel
theorem dX10_mixPage_31 : decode cX10_mixPage 31 = .ok (.lstore_n 3, 1) := by decide +kernel
theorem dX10_mixPage_32 : decode cX10_mixPage 32 = .ok (.iinc 5 1, 3) := by decide +kernel
theorem dX10_mixPage_35 : decode cX10_mixPage 35 = .ok (.goto (-30), 3) := by decide +kernel
theorem dX10_mixPage_38 : decode cX10_mixPage 38 = .ok (.lload_n 3, 1) := by decide +kernel
theorem dX10_mixPage_39 : decode cX10_mixPage 39 = .ok (.lreturn, 1) := by decide +kernel
theorem dX10_mix_0 : decode cX10_mix 0 = .ok (.ldc2_w 295, 3) := by decide +kernel
theorem dX10_mix_3 : decode cX10_mix 3 = .ok (.lload_n 0, 1) := by decide +kernel
theorem dX10_mix_4 : decode cX10_mix 4 = .ok (.lmul, 1) := by decide +kernel
theorem dX10_mix_5 : decode cX10_mix 5 = .ok (.lload_n 2, 1) := by decide +kernel
theorem dX10_mix_6 : decode cX10_mix 6 = .ok (.ladd, 1) := by decide +kernel
theorem dX10_mix_7 : decode cX10_mix 7 = .ok (.lreturn, 1) := by decide +kernel
theorem dX10_isWithin_0 : decode cX10_isWithin 0 = .ok (.iload_n 0, 1) := by decide +kernel
theorem dX10_isWithin_1 : decode cX10_isWithin 1 = .ok (.iload_n 1, 1) := by decide +kernel
theorem dX10_isWithin_2 : decode cX10_isWithin 2 = .ok (.if_icmp .lt 12, 3) := by decide +kernel
theorem dX10_isWithin_5 : decode cX10_isWithin 5 = .ok (.iload_n 0, 1) := by decide +kernel
theorem dX10_isWithin_6 : decode cX10_isWithin 6 = .ok (.iload_n 2, 1) := by decide +kernel
theorem dX10_isWithin_7 : decode cX10_isWithin 7 = .ok (.if_icmp .gt 7, 3) := by decide +kernel
theorem dX10_isWithin_10 : decode cX10_isWithin 10 = .ok (.iconst 1, 1) := by decide +kernel
theorem dX10_isWithin_11 : decode cX10_isWithin 11 = .ok (.goto 4, 3) := by decide +kernel
theorem dX10_isWithin_14 : decode cX10_isWithin 14 = .ok (.iconst 0, 1) := by decide +kernel
theorem dX10_isWithin_15 : decode cX10_isWithin 15 = .ok (.ireturn, 1) := by decide +kernel
theorem dX10_isPerson_0 : decode cX10_isPerson 0 = .ok (.iload_n 0, 1) := by decide +kernel
theorem dX10_isPerson_1 : decode cX10_isPerson 1 = .ok (.ifCond .lt 13, 3) := by decide +kernel
theorem dX10_isPerson_4 : decode cX10_isPerson 4 = .ok (.iload_n 0, 1) := by decide +kernel
theorem dX10_isPerson_5 : decode cX10_isPerson 5 = .ok (.bipush 10, 2) := by decide +kernel
theorem dX10_isPerson_7 : decode cX10_isPerson 7 = .ok (.if_icmp .ge 7, 3) := by decide +kernel
theorem dX10_isPerson_10 : decode cX10_isPerson 10 = .ok (.iconst 1, 1) := by decide +kernel
theorem dX10_isPerson_11 : decode cX10_isPerson 11 = .ok (.goto 4, 3) := by decide +kernel
theorem dX10_isPerson_14 : decode cX10_isPerson 14 = .ok (.iconst 0, 1) := by decide +kernel
theorem dX10_isPerson_15 : decode cX10_isPerson 15 = .ok (.ireturn, 1) := by decide +kernel
theorem dX10_isTown_0 : decode cX10_isTown 0 = .ok (.iload_n 0, 1) := by decide +kernel
theorem dX10_isTown_1 : decode cX10_isTown 1 = .ok (.ifCond .lt 13, 3) := by decide +kernel
theorem dX10_isTown_4 : decode cX10_isTown 4 = .ok (.iload_n 0, 1) := by decide +kernel
theorem dX10_isTown_5 : decode cX10_isTown 5 = .ok (.bipush 6, 2) := by decide +kernel
theorem dX10_isTown_7 : decode cX10_isTown 7 = .ok (.if_icmp .ge 7, 3) := by decide +kernel
theorem dX10_isTown_10 : decode cX10_isTown 10 = .ok (.iconst 1, 1) := by decide +kernel
theorem dX10_isTown_11 : decode cX10_isTown 11 = .ok (.goto 4, 3) := by decide +kernel
theorem dX10_isTown_14 : decode cX10_isTown 14 = .ok (.iconst 0, 1) := by decide +kernel
theorem dX10_isTown_15 : decode cX10_isTown 15 = .ok (.ireturn, 1) := by decide +kernel
theorem dX10_isSpan_0 : decode cX10_isSpan 0 = .ok (.iload_n 0, 1) := by decide +kernel
theorem dX10_isSpan_1 : decode cX10_isSpan 1 = .ok (.iconst 0, 1) := by decide +kernel
theorem dX10_isSpan_2 : decode cX10_isSpan 2 = .ok (.sipush 1999, 3) := by decide +kernel
theorem dX10_isSpan_5 : decode cX10_isSpan 5 = .ok (.invokestatic 76, 3) := by decide +kernel
theorem dX10_isSpan_8 : decode cX10_isSpan 8 = .ok (.ifCond .eq 18, 3) := by decide +kernel
theorem dX10_isSpan_11 : decode cX10_isSpan 11 = .ok (.iload_n 1, 1) := by decide +kernel
theorem dX10_isSpan_12 : decode cX10_isSpan 12 = .ok (.iload_n 0, 1) := by decide +kernel
theorem dX10_isSpan_13 : decode cX10_isSpan 13 = .ok (.sipush 1999, 3) := by decide +kernel
theorem dX10_isSpan_16 : decode cX10_isSpan 16 = .ok (.invokestatic 76, 3) := by decide +kernel
theorem dX10_isSpan_19 : decode cX10_isSpan 19 = .ok (.ifCond .eq 7, 3) := by decide +kernel
theorem dX10_isSpan_22 : decode cX10_isSpan 22 = .ok (.iconst 1, 1) := by decide +kernel
theorem dX10_isSpan_23 : decode cX10_isSpan 23 = .ok (.goto 4, 3) := by decide +kernel
theorem dX10_isSpan_26 : decode cX10_isSpan 26 = .ok (.iconst 0, 1) := by decide +kernel
theorem dX10_isSpan_27 : decode cX10_isSpan 27 = .ok (.ireturn, 1) := by decide +kernel
theorem dX10_isPart_0 : decode cX10_isPart 0 = .ok (.iload_n 0, 1) := by decide +kernel
theorem dX10_isPart_1 : decode cX10_isPart 1 = .ok (.iconst 0, 1) := by decide +kernel
theorem dX10_isPart_2 : decode cX10_isPart 2 = .ok (.iconst 1, 1) := by decide +kernel
theorem dX10_isPart_3 : decode cX10_isPart 3 = .ok (.invokestatic 76, 3) := by decide +kernel
theorem dX10_isPart_6 : decode cX10_isPart 6 = .ok (.ireturn, 1) := by decide +kernel
theorem dX10_isOdds_0 : decode cX10_isOdds 0 = .ok (.iload_n 0, 1) := by decide +kernel
theorem dX10_isOdds_1 : decode cX10_isOdds 1 = .ok (.iconst 0, 1) := by decide +kernel
theorem dX10_isOdds_2 : decode cX10_isOdds 2 = .ok (.bipush 9, 2) := by decide +kernel
theorem dX10_isOdds_4 : decode cX10_isOdds 4 = .ok (.invokestatic 76, 3) := by decide +kernel
theorem dX10_isOdds_7 : decode cX10_isOdds 7 = .ok (.ireturn, 1) := by decide +kernel
theorem dX10_isSetOf_0 : decode cX10_isSetOf 0 = .ok (.iload_n 0, 1) := by decide +kernel
theorem dX10_isSetOf_1 : decode cX10_isSetOf 1 = .ok (.iconst 0, 1) := by decide +kernel
theorem dX10_isSetOf_2 : decode cX10_isSetOf 2 = .ok (.iconst 1, 1) := by decide +kernel
theorem dX10_isSetOf_3 : decode cX10_isSetOf 3 = .ok (.iload_n 1, 1) := by decide +kernel
theorem dX10_isSetOf_4 : decode cX10_isSetOf 4 = .ok (.ishl, 1) := by decide +kernel
theorem dX10_isSetOf_5 : decode cX10_isSetOf 5 = .ok (.iconst 1, 1) := by decide +kernel
theorem dX10_isSetOf_6 : decode cX10_isSetOf 6 = .ok (.isub, 1) := by decide +kernel
theorem dX10_isSetOf_7 : decode cX10_isSetOf 7 = .ok (.invokestatic 76, 3) := by decide +kernel
theorem dX10_isSetOf_10 : decode cX10_isSetOf 10 = .ok (.ireturn, 1) := by decide +kernel
theorem dX10_arePinches_0 : decode cX10_arePinches 0 = .ok (.iload_n 0, 1) := by decide +kernel
theorem dX10_arePinches_1 : decode cX10_arePinches 1 = .ok (.iconst 1, 1) := by decide +kernel
theorem dX10_arePinches_2 : decode cX10_arePinches 2 = .ok (.iconst 3, 1) := by decide +kernel
theorem dX10_arePinches_3 : decode cX10_arePinches 3 = .ok (.invokestatic 76, 3) := by decide +kernel
theorem dX10_arePinches_6 : decode cX10_arePinches 6 = .ok (.ifCond .eq 17, 3) := by decide +kernel
theorem dX10_arePinches_9 : decode cX10_arePinches 9 = .ok (.iload_n 1, 1) := by decide +kernel
theorem dX10_arePinches_10 : decode cX10_arePinches 10 = .ok (.iconst 0, 1) := by decide +kernel
theorem dX10_arePinches_11 : decode cX10_arePinches 11 = .ok (.bipush 8, 2) := by decide +kernel
theorem dX10_arePinches_13 : decode cX10_arePinches 13 = .ok (.invokestatic 76, 3) := by decide +kernel
theorem dX10_arePinches_16 : decode cX10_arePinches 16 = .ok (.ifCond .eq 7, 3) := by decide +kernel
theorem dX10_arePinches_19 : decode cX10_arePinches 19 = .ok (.iconst 1, 1) := by decide +kernel
theorem dX10_arePinches_20 : decode cX10_arePinches 20 = .ok (.goto 4, 3) := by decide +kernel
theorem dX10_arePinches_23 : decode cX10_arePinches 23 = .ok (.iconst 0, 1) := by decide +kernel
theorem dX10_arePinches_24 : decode cX10_arePinches 24 = .ok (.ireturn, 1) := by decide +kernel
theorem dX10_isIn_0 : decode cX10_isIn 0 = .ok (.iload_n 0, 1) := by decide +kernel
theorem dX10_isIn_1 : decode cX10_isIn 1 = .ok (.iload_n 1, 1) := by decide +kernel
theorem dX10_isIn_2 : decode cX10_isIn 2 = .ok (.ishr, 1) := by decide +kernel
theorem dX10_isIn_3 : decode cX10_isIn 3 = .ok (.iconst 1, 1) := by decide +kernel
theorem dX10_isIn_4 : decode cX10_isIn 4 = .ok (.iand, 1) := by decide +kernel
theorem dX10_isIn_5 : decode cX10_isIn 5 = .ok (.ifCond .eq 7, 3) := by decide +kernel
theorem dX10_isIn_8 : decode cX10_isIn 8 = .ok (.iconst 1, 1) := by decide +kernel
theorem dX10_isIn_9 : decode cX10_isIn 9 = .ok (.goto 4, 3) := by decide +kernel
theorem dX10_isIn_12 : decode cX10_isIn 12 = .ok (.iconst 0, 1) := by decide +kernel
theorem dX10_isIn_13 : decode cX10_isIn 13 = .ok (.ireturn, 1) := by decide +kernel
theorem dX10_wordsOf_0 : decode cX10_wordsOf 0 = .ok (.iconst 0, 1) := by decide +kernel
theorem dX10_wordsOf_1 : decode cX10_wordsOf 1 = .ok (.istore_n 3, 1) := by decide +kernel
theorem dX10_wordsOf_2 : decode cX10_wordsOf 2 = .ok (.iconst 1, 1) := by decide +kernel
theorem dX10_wordsOf_3 : decode cX10_wordsOf 3 = .ok (.istore 4, 2) := by decide +kernel
theorem dX10_wordsOf_5 : decode cX10_wordsOf 5 = .ok (.iconst 0, 1) := by decide +kernel
theorem dX10_wordsOf_6 : decode cX10_wordsOf 6 = .ok (.istore 5, 2) := by decide +kernel
theorem dX10_wordsOf_8 : decode cX10_wordsOf 8 = .ok (.iload 5, 2) := by decide +kernel
theorem dX10_wordsOf_10 : decode cX10_wordsOf 10 = .ok (.iload_n 2, 1) := by decide +kernel
theorem dX10_wordsOf_11 : decode cX10_wordsOf 11 = .ok (.if_icmp .gt 36, 3) := by decide +kernel
theorem dX10_wordsOf_14 : decode cX10_wordsOf 14 = .ok (.iload 5, 2) := by decide +kernel
theorem dX10_wordsOf_16 : decode cX10_wordsOf 16 = .ok (.iload_n 0, 1) := by decide +kernel
theorem dX10_wordsOf_17 : decode cX10_wordsOf 17 = .ok (.if_icmp .gt 30, 3) := by decide +kernel
theorem dX10_wordsOf_20 : decode cX10_wordsOf 20 = .ok (.iload_n 3, 1) := by decide +kernel
theorem dX10_wordsOf_21 : decode cX10_wordsOf 21 = .ok (.iload 4, 2) := by decide +kernel
theorem dX10_wordsOf_23 : decode cX10_wordsOf 23 = .ok (.iadd, 1) := by decide +kernel
theorem dX10_wordsOf_24 : decode cX10_wordsOf 24 = .ok (.istore_n 3, 1) := by decide +kernel
theorem dX10_wordsOf_25 : decode cX10_wordsOf 25 = .ok (.iload 4, 2) := by decide +kernel
theorem dX10_wordsOf_27 : decode cX10_wordsOf 27 = .ok (.iload_n 0, 1) := by decide +kernel
theorem dX10_wordsOf_28 : decode cX10_wordsOf 28 = .ok (.iload 5, 2) := by decide +kernel
theorem dX10_wordsOf_30 : decode cX10_wordsOf 30 = .ok (.isub, 1) := by decide +kernel
theorem dX10_wordsOf_31 : decode cX10_wordsOf 31 = .ok (.imul, 1) := by decide +kernel
theorem dX10_wordsOf_32 : decode cX10_wordsOf 32 = .ok (.iload_n 1, 1) := by decide +kernel
theorem dX10_wordsOf_33 : decode cX10_wordsOf 33 = .ok (.imul, 1) := by decide +kernel
theorem dX10_wordsOf_34 : decode cX10_wordsOf 34 = .ok (.iload 5, 2) := by decide +kernel
theorem dX10_wordsOf_36 : decode cX10_wordsOf 36 = .ok (.iconst 1, 1) := by decide +kernel
theorem dX10_wordsOf_37 : decode cX10_wordsOf 37 = .ok (.iadd, 1) := by decide +kernel
theorem dX10_wordsOf_38 : decode cX10_wordsOf 38 = .ok (.idiv, 1) := by decide +kernel
theorem dX10_wordsOf_39 : decode cX10_wordsOf 39 = .ok (.istore 4, 2) := by decide +kernel
theorem dX10_wordsOf_41 : decode cX10_wordsOf 41 = .ok (.iinc 5 1, 3) := by decide +kernel
theorem dX10_wordsOf_44 : decode cX10_wordsOf 44 = .ok (.goto (-36), 3) := by decide +kernel
theorem dX10_wordsOf_47 : decode cX10_wordsOf 47 = .ok (.iload_n 3, 1) := by decide +kernel
theorem dX10_wordsOf_48 : decode cX10_wordsOf 48 = .ok (.ireturn, 1) := by decide +kernel
theorem dX10_power_0 : decode cX10_power 0 = .ok (.lconst 1, 1) := by decide +kernel
theorem dX10_power_1 : decode cX10_power 1 = .ok (.lstore_n 3, 1) := by decide +kernel
theorem dX10_power_2 : decode cX10_power 2 = .ok (.iconst 0, 1) := by decide +kernel
theorem dX10_power_3 : decode cX10_power 3 = .ok (.istore 5, 2) := by decide +kernel
theorem dX10_power_5 : decode cX10_power 5 = .ok (.iload 5, 2) := by decide +kernel
theorem dX10_power_7 : decode cX10_power 7 = .ok (.iload_n 2, 1) := by decide +kernel
theorem dX10_power_8 : decode cX10_power 8 = .ok (.if_icmp .ge 13, 3) := by decide +kernel
theorem dX10_power_11 : decode cX10_power 11 = .ok (.lload_n 3, 1) := by decide +kernel
theorem dX10_power_12 : decode cX10_power 12 = .ok (.lload_n 0, 1) := by decide +kernel
theorem dX10_power_13 : decode cX10_power 13 = .ok (.lmul, 1) := by decide +kernel
theorem dX10_power_14 : decode cX10_power 14 = .ok (.lstore_n 3, 1) := by decide +kernel
theorem dX10_power_15 : decode cX10_power 15 = .ok (.iinc 5 1, 3) := by decide +kernel
theorem dX10_power_18 : decode cX10_power 18 = .ok (.goto (-13), 3) := by decide +kernel
theorem dX10_power_21 : decode cX10_power 21 = .ok (.lload_n 3, 1) := by decide +kernel
theorem dX10_power_22 : decode cX10_power 22 = .ok (.lreturn, 1) := by decide +kernel
theorem dX10_inLowestTerms_0 : decode cX10_inLowestTerms 0 = .ok (.lload_n 0, 1) := by decide +kernel
theorem dX10_inLowestTerms_1 : decode cX10_inLowestTerms 1 = .ok (.lload_n 2, 1) := by decide +kernel
theorem dX10_inLowestTerms_2 : decode cX10_inLowestTerms 2 = .ok (.invokestatic 297, 3) := by decide +kernel
theorem dX10_inLowestTerms_5 : decode cX10_inLowestTerms 5 = .ok (.lstore 5, 2) := by decide +kernel
theorem dX10_inLowestTerms_7 : decode cX10_inLowestTerms 7 = .ok (.iload 4, 2) := by decide +kernel
theorem dX10_inLowestTerms_9 : decode cX10_inLowestTerms 9 = .ok (.ifCond .ne 7, 3) := by decide +kernel
theorem dX10_inLowestTerms_12 : decode cX10_inLowestTerms 12 = .ok (.lload_n 0, 1) := by decide +kernel
theorem dX10_inLowestTerms_13 : decode cX10_inLowestTerms 13 = .ok (.goto 4, 3) := by decide +kernel
theorem dX10_inLowestTerms_16 : decode cX10_inLowestTerms 16 = .ok (.lload_n 2, 1) := by decide +kernel
theorem dX10_inLowestTerms_17 : decode cX10_inLowestTerms 17 = .ok (.lstore 7, 2) := by decide +kernel
theorem dX10_inLowestTerms_19 : decode cX10_inLowestTerms 19 = .ok (.lload 5, 2) := by decide +kernel
theorem dX10_inLowestTerms_21 : decode cX10_inLowestTerms 21 = .ok (.lconst 0, 1) := by decide +kernel
theorem dX10_inLowestTerms_22 : decode cX10_inLowestTerms 22 = .ok (.lcmp, 1) := by decide +kernel
theorem dX10_inLowestTerms_23 : decode cX10_inLowestTerms 23 = .ok (.ifCond .ne 8, 3) := by decide +kernel
theorem dX10_inLowestTerms_26 : decode cX10_inLowestTerms 26 = .ok (.lload 7, 2) := by decide +kernel
theorem dX10_inLowestTerms_28 : decode cX10_inLowestTerms 28 = .ok (.goto 8, 3) := by decide +kernel
theorem dX10_inLowestTerms_31 : decode cX10_inLowestTerms 31 = .ok (.lload 7, 2) := by decide +kernel
theorem dX10_inLowestTerms_33 : decode cX10_inLowestTerms 33 = .ok (.lload 5, 2) := by decide +kernel
theorem dX10_inLowestTerms_35 : decode cX10_inLowestTerms 35 = .ok (.ldiv, 1) := by decide +kernel
theorem dX10_inLowestTerms_36 : decode cX10_inLowestTerms 36 = .ok (.lreturn, 1) := by decide +kernel
theorem dX10_commonDivisor_0 : decode cX10_commonDivisor 0 = .ok (.lload_n 0, 1) := by decide +kernel
theorem dX10_commonDivisor_1 : decode cX10_commonDivisor 1 = .ok (.lstore 4, 2) := by decide +kernel
theorem dX10_commonDivisor_3 : decode cX10_commonDivisor 3 = .ok (.lload_n 2, 1) := by decide +kernel
theorem dX10_commonDivisor_4 : decode cX10_commonDivisor 4 = .ok (.lstore 6, 2) := by decide +kernel
theorem dX10_commonDivisor_6 : decode cX10_commonDivisor 6 = .ok (.iconst 0, 1) := by decide +kernel
theorem dX10_commonDivisor_7 : decode cX10_commonDivisor 7 = .ok (.istore 8, 2) := by decide +kernel
theorem dX10_commonDivisor_9 : decode cX10_commonDivisor 9 = .ok (.iload 8, 2) := by decide +kernel
theorem dX10_commonDivisor_11 : decode cX10_commonDivisor 11 = .ok (.bipush 100, 2) := by decide +kernel
theorem dX10_commonDivisor_13 : decode cX10_commonDivisor 13 = .ok (.if_icmp .ge 31, 3) := by decide +kernel
theorem dX10_commonDivisor_16 : decode cX10_commonDivisor 16 = .ok (.lload 6, 2) := by decide +kernel
theorem dX10_commonDivisor_18 : decode cX10_commonDivisor 18 = .ok (.lconst 0, 1) := by decide +kernel
theorem dX10_commonDivisor_19 : decode cX10_commonDivisor 19 = .ok (.lcmp, 1) := by decide +kernel
theorem dX10_commonDivisor_20 : decode cX10_commonDivisor 20 = .ok (.ifCond .eq 24, 3) := by decide +kernel
theorem dX10_commonDivisor_23 : decode cX10_commonDivisor 23 = .ok (.lload 4, 2) := by decide +kernel
theorem dX10_commonDivisor_25 : decode cX10_commonDivisor 25 = .ok (.lload 6, 2) := by decide +kernel
theorem dX10_commonDivisor_27 : decode cX10_commonDivisor 27 = .ok (.lrem, 1) := by decide +kernel
theorem dX10_commonDivisor_28 : decode cX10_commonDivisor 28 = .ok (.lstore 9, 2) := by decide +kernel
theorem dX10_commonDivisor_30 : decode cX10_commonDivisor 30 = .ok (.lload 6, 2) := by decide +kernel
theorem dX10_commonDivisor_32 : decode cX10_commonDivisor 32 = .ok (.lstore 4, 2) := by decide +kernel
theorem dX10_commonDivisor_34 : decode cX10_commonDivisor 34 = .ok (.lload 9, 2) := by decide +kernel
theorem dX10_commonDivisor_36 : decode cX10_commonDivisor 36 = .ok (.lstore 6, 2) := by decide +kernel
theorem dX10_commonDivisor_38 : decode cX10_commonDivisor 38 = .ok (.iinc 8 1, 3) := by decide +kernel
theorem dX10_commonDivisor_41 : decode cX10_commonDivisor 41 = .ok (.goto (-32), 3) := by decide +kernel
theorem dX10_commonDivisor_44 : decode cX10_commonDivisor 44 = .ok (.lload 4, 2) := by decide +kernel
theorem dX10_commonDivisor_46 : decode cX10_commonDivisor 46 = .ok (.lreturn, 1) := by decide +kernel
theorem dX11_init_0 : decode cX11_init 0 = .ok (.aload_n 0, 1) := by decide +kernel
theorem dX11_init_1 : decode cX11_init 1 = .ok (.invokespecial 1, 3) := by decide +kernel
theorem dX11_init_4 : decode cX11_init 4 = .ok (.aload_n 0, 1) := by decide +kernel
theorem dX11_init_5 : decode cX11_init 5 = .ok (.bipush 36, 2) := by decide +kernel
theorem dX11_init_7 : decode cX11_init 7 = .ok (.newarray .int, 2) := by decide +kernel
theorem dX11_init_9 : decode cX11_init 9 = .ok (.putfield 7, 3) := by decide +kernel
theorem dX11_init_12 : decode cX11_init 12 = .ok (.aload_n 0, 1) := by decide +kernel
theorem dX11_init_13 : decode cX11_init 13 = .ok (.bipush 10, 2) := by decide +kernel
theorem dX11_init_15 : decode cX11_init 15 = .ok (.newarray .int, 2) := by decide +kernel
theorem dX11_init_17 : decode cX11_init 17 = .ok (.putfield 13, 3) := by decide +kernel
theorem dX11_init_20 : decode cX11_init 20 = .ok (.aload_n 0, 1) := by decide +kernel
theorem dX11_init_21 : decode cX11_init 21 = .ok (.bipush 32, 2) := by decide +kernel
theorem dX11_init_23 : decode cX11_init 23 = .ok (.newarray .int, 2) := by decide +kernel
theorem dX11_init_25 : decode cX11_init 25 = .ok (.putfield 16, 3) := by decide +kernel
theorem dX11_init_28 : decode cX11_init 28 = .ok (.aload_n 0, 1) := by decide +kernel
theorem dX11_init_29 : decode cX11_init 29 = .ok (.bipush 35, 2) := by decide +kernel
theorem dX11_init_31 : decode cX11_init 31 = .ok (.newarray .int, 2) := by decide +kernel
theorem dX11_init_33 : decode cX11_init 33 = .ok (.putfield 19, 3) := by decide +kernel
theorem dX11_init_36 : decode cX11_init 36 = .ok (.aload_n 0, 1) := by decide +kernel
theorem dX11_init_37 : decode cX11_init 37 = .ok (.bipush 35, 2) := by decide +kernel
theorem dX11_init_39 : decode cX11_init 39 = .ok (.newarray .int, 2) := by decide +kernel
theorem dX11_init_41 : decode cX11_init 41 = .ok (.putfield 22, 3) := by decide +kernel
theorem dX11_init_44 : decode cX11_init 44 = .ok (.aload_n 0, 1) := by decide +kernel
theorem dX11_init_45 : decode cX11_init 45 = .ok (.bipush 10, 2) := by decide +kernel
theorem dX11_init_47 : decode cX11_init 47 = .ok (.newarray .int, 2) := by decide +kernel
theorem dX11_init_49 : decode cX11_init 49 = .ok (.putfield 25, 3) := by decide +kernel
theorem dX11_init_52 : decode cX11_init 52 = .ok (.aload_n 0, 1) := by decide +kernel
theorem dX11_init_53 : decode cX11_init 53 = .ok (.bipush 24, 2) := by decide +kernel
theorem dX11_init_55 : decode cX11_init 55 = .ok (.newarray .int, 2) := by decide +kernel
theorem dX11_init_57 : decode cX11_init 57 = .ok (.putfield 28, 3) := by decide +kernel
theorem dX11_init_60 : decode cX11_init 60 = .ok (.aload_n 0, 1) := by decide +kernel
theorem dX11_init_61 : decode cX11_init 61 = .ok (.bipush 36, 2) := by decide +kernel
theorem dX11_init_63 : decode cX11_init 63 = .ok (.newarray .int, 2) := by decide +kernel
theorem dX11_init_65 : decode cX11_init 65 = .ok (.putfield 31, 3) := by decide +kernel
theorem dX11_init_68 : decode cX11_init 68 = .ok (.aload_n 0, 1) := by decide +kernel
theorem dX11_init_69 : decode cX11_init 69 = .ok (.bipush 16, 2) := by decide +kernel
theorem dX11_init_71 : decode cX11_init 71 = .ok (.newarray .int, 2) := by decide +kernel
theorem dX11_init_73 : decode cX11_init 73 = .ok (.putfield 34, 3) := by decide +kernel
theorem dX11_init_76 : decode cX11_init 76 = .ok (.aload_n 0, 1) := by decide +kernel
theorem dX11_init_77 : decode cX11_init 77 = .ok (.iconst 4, 1) := by decide +kernel
theorem dX11_init_78 : decode cX11_init 78 = .ok (.newarray .int, 2) := by decide +kernel
theorem dX11_init_80 : decode cX11_init 80 = .ok (.putfield 37, 3) := by decide +kernel
theorem dX11_init_83 : decode cX11_init 83 = .ok (.aload_n 0, 1) := by decide +kernel
theorem dX11_init_84 : decode cX11_init 84 = .ok (.bipush 16, 2) := by decide +kernel
theorem dX11_init_86 : decode cX11_init 86 = .ok (.newarray .int, 2) := by decide +kernel
theorem dX11_init_88 : decode cX11_init 88 = .ok (.putfield 40, 3) := by decide +kernel
theorem dX11_init_91 : decode cX11_init 91 = .ok (.aload_n 0, 1) := by decide +kernel
theorem dX11_init_92 : decode cX11_init 92 = .ok (.bipush 8, 2) := by decide +kernel
theorem dX11_init_94 : decode cX11_init 94 = .ok (.newarray .int, 2) := by decide +kernel
theorem dX11_init_96 : decode cX11_init 96 = .ok (.putfield 43, 3) := by decide +kernel
theorem dX11_init_99 : decode cX11_init 99 = .ok (.aload_n 0, 1) := by decide +kernel
theorem dX11_init_100 : decode cX11_init 100 = .ok (.bipush 8, 2) := by decide +kernel
theorem dX11_init_102 : decode cX11_init 102 = .ok (.newarray .int, 2) := by decide +kernel
theorem dX11_init_104 : decode cX11_init 104 = .ok (.putfield 46, 3) := by decide +kernel
theorem dX11_init_107 : decode cX11_init 107 = .ok (.aload_n 0, 1) := by decide +kernel
theorem dX11_init_108 : decode cX11_init 108 = .ok (.bipush 24, 2) := by decide +kernel
theorem dX11_init_110 : decode cX11_init 110 = .ok (.newarray .int, 2) := by decide +kernel
theorem dX11_init_112 : decode cX11_init 112 = .ok (.putfield 49, 3) := by decide +kernel
theorem dX11_init_115 : decode cX11_init 115 = .ok (.aload_n 0, 1) := by decide +kernel
theorem dX11_init_116 : decode cX11_init 116 = .ok (.bipush 10, 2) := by decide +kernel
theorem dX11_init_118 : decode cX11_init 118 = .ok (.newarray .int, 2) := by decide +kernel
theorem dX11_init_120 : decode cX11_init 120 = .ok (.putfield 52, 3) := by decide +kernel
theorem dX11_init_123 : decode cX11_init 123 = .ok (.aload_n 0, 1) := by decide +kernel
theorem dX11_init_124 : decode cX11_init 124 = .ok (.iconst 4, 1) := by decide +kernel
theorem dX11_init_125 : decode cX11_init 125 = .ok (.newarray .int, 2) := by decide +kernel
theorem dX11_init_127 : decode cX11_init 127 = .ok (.putfield 55, 3) := by decide +kernel
theorem dX11_init_130 : decode cX11_init 130 = .ok (.aload_n 0, 1) := by decide +kernel
theorem dX11_init_131 : decode cX11_init 131 = .ok (.bipush 16, 2) := by decide +kernel
theorem dX11_init_133 : decode cX11_init 133 = .ok (.newarray .int, 2) := by decide +kernel
theorem dX11_init_135 : decode cX11_init 135 = .ok (.putfield 58, 3) := by decide +kernel
theorem dX11_init_138 : decode cX11_init 138 = .ok (.aload_n 0, 1) := by decide +kernel
theorem dX11_init_139 : decode cX11_init 139 = .ok (.iconst (-1), 1) := by decide +kernel
theorem dX11_init_140 : decode cX11_init 140 = .ok (.putfield 61, 3) := by decide +kernel
theorem dX11_init_143 : decode cX11_init 143 = .ok (.aload_n 0, 1) := by decide +kernel
theorem dX11_init_144 : decode cX11_init 144 = .ok (.iconst 4, 1) := by decide +kernel
theorem dX11_init_145 : decode cX11_init 145 = .ok (.putfield 65, 3) := by decide +kernel
theorem dX11_init_148 : decode cX11_init 148 = .ok (.iconst 0, 1) := by decide +kernel
theorem dX11_init_149 : decode cX11_init 149 = .ok (.istore_n 1, 1) := by decide +kernel
theorem dX11_init_150 : decode cX11_init 150 = .ok (.iload_n 1, 1) := by decide +kernel
theorem dX11_init_151 : decode cX11_init 151 = .ok (.bipush 10, 2) := by decide +kernel
theorem dX11_init_153 : decode cX11_init 153 = .ok (.if_icmp .ge 16, 3) := by decide +kernel
theorem dX11_init_156 : decode cX11_init 156 = .ok (.aload_n 0, 1) := by decide +kernel
theorem dX11_init_157 : decode cX11_init 157 = .ok (.getfield 25, 3) := by decide +kernel
theorem dX11_init_160 : decode cX11_init 160 = .ok (.iload_n 1, 1) := by decide +kernel
theorem dX11_init_161 : decode cX11_init 161 = .ok (.iconst (-1), 1) := by decide +kernel
theorem dX11_init_162 : decode cX11_init 162 = .ok (.iastore, 1) := by decide +kernel
theorem dX11_init_163 : decode cX11_init 163 = .ok (.iinc 1 1, 3) := by decide +kernel
theorem dX11_init_166 : decode cX11_init 166 = .ok (.goto (-16), 3) := by decide +kernel
theorem dX11_init_169 : decode cX11_init 169 = .ok (.return_, 1) := by decide +kernel
theorem dX11_in_0 : decode cX11_in 0 = .ok (.lload_n 0, 1) := by decide +kernel
theorem dX11_in_1 : decode cX11_in 1 = .ok (.lload_n 2, 1) := by decide +kernel
theorem dX11_in_2 : decode cX11_in 2 = .ok (.lcmp, 1) := by decide +kernel
theorem dX11_in_3 : decode cX11_in 3 = .ok (.ifCond .lt 14, 3) := by decide +kernel
theorem dX11_in_6 : decode cX11_in 6 = .ok (.lload_n 0, 1) := by decide +kernel
theorem dX11_in_7 : decode cX11_in 7 = .ok (.lload 4, 2) := by decide +kernel
theorem dX11_in_9 : decode cX11_in 9 = .ok (.lcmp, 1) := by decide +kernel
theorem dX11_in_10 : decode cX11_in 10 = .ok (.ifCond .gt 7, 3) := by decide +kernel
theorem dX11_in_13 : decode cX11_in 13 = .ok (.iconst 1, 1) := by decide +kernel
theorem dX11_in_14 : decode cX11_in 14 = .ok (.goto 4, 3) := by decide +kernel
theorem dX11_in_17 : decode cX11_in 17 = .ok (.iconst 0, 1) := by decide +kernel
theorem dX11_in_18 : decode cX11_in 18 = .ok (.ireturn, 1) := by decide +kernel
theorem dX11_isTown_0 : decode cX11_isTown 0 = .ok (.iload_n 0, 1) := by decide +kernel
theorem dX11_isTown_1 : decode cX11_isTown 1 = .ok (.i2l, 1) := by decide +kernel
theorem dX11_isTown_2 : decode cX11_isTown 2 = .ok (.lconst 0, 1) := by decide +kernel
theorem dX11_isTown_3 : decode cX11_isTown 3 = .ok (.ldc2_w 68, 3) := by decide +kernel
theorem dX11_isTown_6 : decode cX11_isTown 6 = .ok (.invokestatic 70, 3) := by decide +kernel
theorem dX11_isTown_9 : decode cX11_isTown 9 = .ok (.ireturn, 1) := by decide +kernel
theorem dX11_isPerson_0 : decode cX11_isPerson 0 = .ok (.iload_n 0, 1) := by decide +kernel
theorem dX11_isPerson_1 : decode cX11_isPerson 1 = .ok (.i2l, 1) := by decide +kernel
theorem dX11_isPerson_2 : decode cX11_isPerson 2 = .ok (.lconst 0, 1) := by decide +kernel
theorem dX11_isPerson_3 : decode cX11_isPerson 3 = .ok (.ldc2_w 74, 3) := by decide +kernel
theorem dX11_isPerson_6 : decode cX11_isPerson 6 = .ok (.invokestatic 70, 3) := by decide +kernel
theorem dX11_isPerson_9 : decode cX11_isPerson 9 = .ok (.ireturn, 1) := by decide +kernel
theorem dX11_road_0 : decode cX11_road 0 = .ok (.iload_n 1, 1) := by decide +kernel
theorem dX11_road_1 : decode cX11_road 1 = .ok (.invokestatic 76, 3) := by decide +kernel
theorem dX11_road_4 : decode cX11_road 4 = .ok (.ifCond .eq 15, 3) := by decide +kernel
theorem dX11_road_7 : decode cX11_road 7 = .ok (.iload_n 2, 1) := by decide +kernel
theorem dX11_road_8 : decode cX11_road 8 = .ok (.invokestatic 76, 3) := by decide +kernel
theorem dX11_road_11 : decode cX11_road 11 = .ok (.ifCond .eq 8, 3) := by decide +kernel
theorem dX11_road_14 : decode cX11_road 14 = .ok (.iload_n 1, 1) := by decide +kernel
theorem dX11_road_15 : decode cX11_road 15 = .ok (.iload_n 2, 1) := by decide +kernel
theorem dX11_road_16 : decode cX11_road 16 = .ok (.if_icmp .ne 6, 3) := by decide +kernel
theorem dX11_road_19 : decode cX11_road 19 = .ok (.bipush (-101), 2) := by decide +kernel
theorem dX11_road_21 : decode cX11_road 21 = .ok (.ireturn, 1) := by decide +kernel
theorem dX11_road_22 : decode cX11_road 22 = .ok (.iload_n 3, 1) := by decide +kernel
theorem dX11_road_23 : decode cX11_road 23 = .ok (.i2l, 1) := by decide +kernel
theorem dX11_road_24 : decode cX11_road 24 = .ok (.lconst 0, 1) := by decide +kernel
theorem dX11_road_25 : decode cX11_road 25 = .ok (.ldc2_w 80, 3) := by decide +kernel
theorem dX11_road_28 : decode cX11_road 28 = .ok (.invokestatic 70, 3) := by decide +kernel
theorem dX11_road_31 : decode cX11_road 31 = .ok (.ifCond .ne 6, 3) := by decide +kernel
theorem dX11_road_34 : decode cX11_road 34 = .ok (.bipush (-102), 2) := by decide +kernel
theorem dX11_road_36 : decode cX11_road 36 = .ok (.ireturn, 1) := by decide +kernel
theorem dX11_road_37 : decode cX11_road 37 = .ok (.aload_n 0, 1) := by decide +kernel
theorem dX11_road_38 : decode cX11_road 38 = .ok (.getfield 7, 3) := by decide +kernel
theorem dX11_road_41 : decode cX11_road 41 = .ok (.bipush 6, 2) := by decide +kernel
theorem dX11_road_43 : decode cX11_road 43 = .ok (.iload_n 1, 1) := by decide +kernel
theorem dX11_road_44 : decode cX11_road 44 = .ok (.imul, 1) := by decide +kernel
theorem dX11_road_45 : decode cX11_road 45 = .ok (.iload_n 2, 1) := by decide +kernel
theorem dX11_road_46 : decode cX11_road 46 = .ok (.iadd, 1) := by decide +kernel
theorem dX11_road_47 : decode cX11_road 47 = .ok (.iaload, 1) := by decide +kernel
theorem dX11_road_48 : decode cX11_road 48 = .ok (.istore 4, 2) := by decide +kernel
theorem dX11_road_50 : decode cX11_road 50 = .ok (.aload_n 0, 1) := by decide +kernel
theorem dX11_road_51 : decode cX11_road 51 = .ok (.getfield 7, 3) := by decide +kernel
theorem dX11_road_54 : decode cX11_road 54 = .ok (.bipush 6, 2) := by decide +kernel
theorem dX11_road_56 : decode cX11_road 56 = .ok (.iload_n 1, 1) := by decide +kernel
theorem dX11_road_57 : decode cX11_road 57 = .ok (.imul, 1) := by decide +kernel
theorem dX11_road_58 : decode cX11_road 58 = .ok (.iload_n 2, 1) := by decide +kernel
theorem dX11_road_59 : decode cX11_road 59 = .ok (.iadd, 1) := by decide +kernel
theorem dX11_road_60 : decode cX11_road 60 = .ok (.iload_n 3, 1) := by decide +kernel
theorem dX11_road_61 : decode cX11_road 61 = .ok (.iastore, 1) := by decide +kernel
theorem dX11_road_62 : decode cX11_road 62 = .ok (.aload_n 0, 1) := by decide +kernel
theorem dX11_road_63 : decode cX11_road 63 = .ok (.getfield 7, 3) := by decide +kernel
theorem dX11_road_66 : decode cX11_road 66 = .ok (.bipush 6, 2) := by decide +kernel
theorem dX11_road_68 : decode cX11_road 68 = .ok (.iload_n 2, 1) := by decide +kernel
theorem dX11_road_69 : decode cX11_road 69 = .ok (.imul, 1) := by decide +kernel
theorem dX11_road_70 : decode cX11_road 70 = .ok (.iload_n 1, 1) := by decide +kernel
theorem dX11_road_71 : decode cX11_road 71 = .ok (.iadd, 1) := by decide +kernel
theorem dX11_road_72 : decode cX11_road 72 = .ok (.iload_n 3, 1) := by decide +kernel
theorem dX11_road_73 : decode cX11_road 73 = .ok (.iastore, 1) := by decide +kernel
theorem dX11_road_74 : decode cX11_road 74 = .ok (.iload 4, 2) := by decide +kernel
theorem dX11_road_76 : decode cX11_road 76 = .ok (.ireturn, 1) := by decide +kernel
theorem dX11_town_0 : decode cX11_town 0 = .ok (.iload_n 1, 1) := by decide +kernel
theorem dX11_town_1 : decode cX11_town 1 = .ok (.invokestatic 82, 3) := by decide +kernel
theorem dX11_town_4 : decode cX11_town 4 = .ok (.ifCond .eq 10, 3) := by decide +kernel
theorem dX11_town_7 : decode cX11_town 7 = .ok (.iload_n 2, 1) := by decide +kernel
theorem dX11_town_8 : decode cX11_town 8 = .ok (.invokestatic 76, 3) := by decide +kernel
theorem dX11_town_11 : decode cX11_town 11 = .ok (.ifCond .ne 6, 3) := by decide +kernel
theorem dX11_town_14 : decode cX11_town 14 = .ok (.bipush (-101), 2) := by decide +kernel
theorem dX11_town_16 : decode cX11_town 16 = .ok (.ireturn, 1) := by decide +kernel
theorem dX11_town_17 : decode cX11_town 17 = .ok (.aload_n 0, 1) := by decide +kernel
theorem dX11_town_18 : decode cX11_town 18 = .ok (.getfield 13, 3) := by decide +kernel
theorem dX11_town_21 : decode cX11_town 21 = .ok (.iload_n 1, 1) := by decide +kernel
theorem dX11_town_22 : decode cX11_town 22 = .ok (.iaload, 1) := by decide +kernel
theorem dX11_town_23 : decode cX11_town 23 = .ok (.istore_n 3, 1) := by decide +kernel
theorem dX11_town_24 : decode cX11_town 24 = .ok (.aload_n 0, 1) := by decide +kernel
theorem dX11_town_25 : decode cX11_town 25 = .ok (.getfield 13, 3) := by decide +kernel
theorem dX11_town_28 : decode cX11_town 28 = .ok (.iload_n 1, 1) := by decide +kernel
theorem dX11_town_29 : decode cX11_town 29 = .ok (.iload_n 2, 1) := by decide +kernel
theorem dX11_town_30 : decode cX11_town 30 = .ok (.iastore, 1) := by decide +kernel
theorem dX11_town_31 : decode cX11_town 31 = .ok (.iload_n 3, 1) := by decide +kernel
theorem dX11_town_32 : decode cX11_town 32 = .ok (.ireturn, 1) := by decide +kernel
theorem dX11_letters_0 : decode cX11_letters 0 = .ok (.iconst 0, 1) := by decide +kernel
theorem dX11_letters_1 : decode cX11_letters 1 = .ok (.istore_n 3, 1) := by decide +kernel
theorem dX11_letters_2 : decode cX11_letters 2 = .ok (.iconst 1, 1) := by decide +kernel
theorem dX11_letters_3 : decode cX11_letters 3 = .ok (.istore 4, 2) := by decide +kernel
theorem dX11_letters_5 : decode cX11_letters 5 = .ok (.lload_n 1, 1) := by decide +kernel
theorem dX11_letters_6 : decode cX11_letters 6 = .ok (.lstore 5, 2) := by decide +kernel
theorem dX11_letters_8 : decode cX11_letters 8 = .ok (.iconst 0, 1) := by decide +kernel
theorem dX11_letters_9 : decode cX11_letters 9 = .ok (.istore 7, 2) := by decide +kernel
theorem dX11_letters_11 : decode cX11_letters 11 = .ok (.iload 7, 2) := by decide +kernel
theorem dX11_letters_13 : decode cX11_letters 13 = .ok (.bipush 8, 2) := by decide +kernel
theorem dX11_letters_15 : decode cX11_letters 15 = .ok (.if_icmp .ge 68, 3) := by decide +kernel
theorem dX11_letters_18 : decode cX11_letters 18 = .ok (.lload 5, 2) := by decide +kernel
theorem dX11_letters_20 : decode cX11_letters 20 = .ok (.ldc2_w 85, 3) := by decide +kernel
theorem dX11_letters_23 : decode cX11_letters 23 = .ok (.land, 1) := by decide +kernel
theorem dX11_letters_24 : decode cX11_letters 24 = .ok (.l2i, 1) := by decide +kernel
theorem dX11_letters_25 : decode cX11_letters 25 = .ok (.istore 8, 2) := by decide +kernel
theorem dX11_letters_27 : decode cX11_letters 27 = .ok (.lload 5, 2) := by decide +kernel
theorem dX11_letters_29 : decode cX11_letters 29 = .ok (.bipush 8, 2) := by decide +kernel
theorem dX11_letters_31 : decode cX11_letters 31 = .ok (.lushr, 1) := by decide +kernel
theorem dX11_letters_32 : decode cX11_letters 32 = .ok (.lstore 5, 2) := by decide +kernel
theorem dX11_letters_34 : decode cX11_letters 34 = .ok (.iload 4, 2) := by decide +kernel
theorem dX11_letters_36 : decode cX11_letters 36 = .ok (.ifCond .eq 25, 3) := by decide +kernel
theorem dX11_letters_39 : decode cX11_letters 39 = .ok (.iload 8, 2) := by decide +kernel
theorem dX11_letters_41 : decode cX11_letters 41 = .ok (.bipush 126, 2) := by decide +kernel
theorem dX11_letters_43 : decode cX11_letters 43 = .ok (.if_icmp .gt 18, 3) := by decide +kernel
theorem dX11_letters_46 : decode cX11_letters 46 = .ok (.iload 8, 2) := by decide +kernel
theorem dX11_letters_48 : decode cX11_letters 48 = .ok (.ifCond .eq 9, 3) := by decide +kernel
theorem dX11_letters_51 : decode cX11_letters 51 = .ok (.iload_n 3, 1) := by decide +kernel
theorem dX11_letters_52 : decode cX11_letters 52 = .ok (.iload 7, 2) := by decide +kernel
theorem dX11_letters_54 : decode cX11_letters 54 = .ok (.if_icmp .ne 7, 3) := by decide +kernel
theorem dX11_letters_57 : decode cX11_letters 57 = .ok (.iconst 1, 1) := by decide +kernel
theorem dX11_letters_58 : decode cX11_letters 58 = .ok (.goto 4, 3) := by decide +kernel
theorem dX11_letters_61 : decode cX11_letters 61 = .ok (.iconst 0, 1) := by decide +kernel
theorem dX11_letters_62 : decode cX11_letters 62 = .ok (.istore 4, 2) := by decide +kernel
theorem dX11_letters_64 : decode cX11_letters 64 = .ok (.iload_n 3, 1) := by decide +kernel
theorem dX11_letters_65 : decode cX11_letters 65 = .ok (.iload 8, 2) := by decide +kernel
theorem dX11_letters_67 : decode cX11_letters 67 = .ok (.ifCond .le 7, 3) := by decide +kernel
theorem dX11_letters_70 : decode cX11_letters 70 = .ok (.iconst 1, 1) := by decide +kernel
theorem dX11_letters_71 : decode cX11_letters 71 = .ok (.goto 4, 3) := by decide +kernel
theorem dX11_letters_74 : decode cX11_letters 74 = .ok (.iconst 0, 1) := by decide +kernel
theorem dX11_letters_75 : decode cX11_letters 75 = .ok (.iadd, 1) := by decide +kernel
theorem dX11_letters_76 : decode cX11_letters 76 = .ok (.istore_n 3, 1) := by decide +kernel
theorem dX11_letters_77 : decode cX11_letters 77 = .ok (.iinc 7 1, 3) := by decide +kernel
theorem dX11_letters_80 : decode cX11_letters 80 = .ok (.goto (-69), 3) := by decide +kernel
theorem dX11_letters_83 : decode cX11_letters 83 = .ok (.iload 4, 2) := by decide +kernel
theorem dX11_letters_85 : decode cX11_letters 85 = .ok (.ifCond .ne 6, 3) := by decide +kernel
theorem dX11_letters_88 : decode cX11_letters 88 = .ok (.bipush (-102), 2) := by decide +kernel
theorem dX11_letters_90 : decode cX11_letters 90 = .ok (.ireturn, 1) := by decide +kernel
theorem dX11_letters_91 : decode cX11_letters 91 = .ok (.aload_n 0, 1) := by decide +kernel
theorem dX11_letters_92 : decode cX11_letters 92 = .ok (.getfield 87, 3) := by decide +kernel
theorem dX11_letters_95 : decode cX11_letters 95 = .ok (.iload_n 3, 1) := by decide +kernel
theorem dX11_letters_96 : decode cX11_letters 96 = .ok (.iadd, 1) := by decide +kernel
theorem dX11_letters_97 : decode cX11_letters 97 = .ok (.bipush 32, 2) := by decide +kernel
theorem dX11_letters_99 : decode cX11_letters 99 = .ok (.if_icmp .le 6, 3) := by decide +kernel
theorem dX11_letters_102 : decode cX11_letters 102 = .ok (.bipush (-104), 2) := by decide +kernel
theorem dX11_letters_104 : decode cX11_letters 104 = .ok (.ireturn, 1) := by decide +kernel
theorem dX11_letters_105 : decode cX11_letters 105 = .ok (.iconst 0, 1) := by decide +kernel
theorem dX11_letters_106 : decode cX11_letters 106 = .ok (.istore 7, 2) := by decide +kernel
theorem dX11_letters_108 : decode cX11_letters 108 = .ok (.iload 7, 2) := by decide +kernel
theorem dX11_letters_110 : decode cX11_letters 110 = .ok (.iload_n 3, 1) := by decide +kernel
theorem dX11_letters_111 : decode cX11_letters 111 = .ok (.if_icmp .ge 40, 3) := by decide +kernel
theorem dX11_letters_114 : decode cX11_letters 114 = .ok (.aload_n 0, 1) := by decide +kernel
theorem dX11_letters_115 : decode cX11_letters 115 = .ok (.getfield 16, 3) := by decide +kernel
theorem dX11_letters_118 : decode cX11_letters 118 = .ok (.aload_n 0, 1) := by decide +kernel
theorem dX11_letters_119 : decode cX11_letters 119 = .ok (.getfield 87, 3) := by decide +kernel
theorem dX11_letters_122 : decode cX11_letters 122 = .ok (.lload_n 1, 1) := by decide +kernel
theorem dX11_letters_123 : decode cX11_letters 123 = .ok (.bipush 8, 2) := by decide +kernel
theorem dX11_letters_125 : decode cX11_letters 125 = .ok (.iload 7, 2) := by decide +kernel
theorem dX11_letters_127 : decode cX11_letters 127 = .ok (.imul, 1) := by decide +kernel
theorem dX11_letters_128 : decode cX11_letters 128 = .ok (.lushr, 1) := by decide +kernel
theorem dX11_letters_129 : decode cX11_letters 129 = .ok (.ldc2_w 85, 3) := by decide +kernel
theorem dX11_letters_132 : decode cX11_letters 132 = .ok (.land, 1) := by decide +kernel
theorem dX11_letters_133 : decode cX11_letters 133 = .ok (.l2i, 1) := by decide +kernel
theorem dX11_letters_134 : decode cX11_letters 134 = .ok (.iastore, 1) := by decide +kernel
theorem dX11_letters_135 : decode cX11_letters 135 = .ok (.aload_n 0, 1) := by decide +kernel
theorem dX11_letters_136 : decode cX11_letters 136 = .ok (.dup, 1) := by decide +kernel
theorem dX11_letters_137 : decode cX11_letters 137 = .ok (.getfield 87, 3) := by decide +kernel
theorem dX11_letters_140 : decode cX11_letters 140 = .ok (.iconst 1, 1) := by decide +kernel
theorem dX11_letters_141 : decode cX11_letters 141 = .ok (.iadd, 1) := by decide +kernel
theorem dX11_letters_142 : decode cX11_letters 142 = .ok (.putfield 87, 3) := by decide +kernel
theorem dX11_letters_145 : decode cX11_letters 145 = .ok (.iinc 7 1, 3) := by decide +kernel
theorem dX11_letters_148 : decode cX11_letters 148 = .ok (.goto (-40), 3) := by decide +kernel
theorem dX11_letters_151 : decode cX11_letters 151 = .ok (.aload_n 0, 1) := by decide +kernel
theorem dX11_letters_152 : decode cX11_letters 152 = .ok (.getfield 87, 3) := by decide +kernel
theorem dX11_letters_155 : decode cX11_letters 155 = .ok (.ireturn, 1) := by decide +kernel
theorem dX11_blank_0 : decode cX11_blank 0 = .ok (.aload_n 0, 1) := by decide +kernel
theorem dX11_blank_1 : decode cX11_blank 1 = .ok (.getfield 87, 3) := by decide +kernel
theorem dX11_blank_4 : decode cX11_blank 4 = .ok (.istore_n 1, 1) := by decide +kernel
theorem dX11_blank_5 : decode cX11_blank 5 = .ok (.aload_n 0, 1) := by decide +kernel
theorem dX11_blank_6 : decode cX11_blank 6 = .ok (.iconst 0, 1) := by decide +kernel
theorem dX11_blank_7 : decode cX11_blank 7 = .ok (.putfield 87, 3) := by decide +kernel
theorem dX11_blank_10 : decode cX11_blank 10 = .ok (.iload_n 1, 1) := by decide +kernel
theorem dX11_blank_11 : decode cX11_blank 11 = .ok (.ireturn, 1) := by decide +kernel
theorem dX11_goPerson_0 : decode cX11_goPerson 0 = .ok (.bipush 7, 2) := by decide +kernel
theorem dX11_goPerson_2 : decode cX11_goPerson 2 = .ok (.aload_n 0, 1) := by decide +kernel
theorem dX11_goPerson_3 : decode cX11_goPerson 3 = .ok (.getfield 90, 3) := by decide +kernel
theorem dX11_goPerson_6 : decode cX11_goPerson 6 = .ok (.imul, 1) := by decide +kernel
theorem dX11_goPerson_7 : decode cX11_goPerson 7 = .ok (.istore_n 2, 1) := by decide +kernel
theorem dX11_goPerson_8 : decode cX11_goPerson 8 = .ok (.iload_n 1, 1) := by decide +kernel
theorem dX11_goPerson_9 : decode cX11_goPerson 9 = .ok (.bipush 48, 2) := by decide +kernel
theorem dX11_goPerson_11 : decode cX11_goPerson 11 = .ok (.isub, 1) := by decide +kernel
theorem dX11_goPerson_12 : decode cX11_goPerson 12 = .ok (.istore_n 3, 1) := by decide +kernel
theorem dX11_goPerson_13 : decode cX11_goPerson 13 = .ok (.aload_n 0, 1) := by decide +kernel
theorem dX11_goPerson_14 : decode cX11_goPerson 14 = .ok (.getfield 19, 3) := by decide +kernel
theorem dX11_goPerson_17 : decode cX11_goPerson 17 = .ok (.iload_n 2, 1) := by decide +kernel
theorem dX11_goPerson_18 : decode cX11_goPerson 18 = .ok (.iaload, 1) := by decide +kernel
theorem dX11_goPerson_19 : decode cX11_goPerson 19 = .ok (.iconst 1, 1) := by decide +kernel
theorem dX11_goPerson_20 : decode cX11_goPerson 20 = .ok (.if_icmp .ne 7, 3) := by decide +kernel
theorem dX11_goPerson_23 : decode cX11_goPerson 23 = .ok (.iconst 4, 1) := by decide +kernel
theorem dX11_goPerson_24 : decode cX11_goPerson 24 = .ok (.goto 4, 3) := by decide +kernel
theorem dX11_goPerson_27 : decode cX11_goPerson 27 = .ok (.iconst 2, 1) := by decide +kernel
theorem dX11_goPerson_28 : decode cX11_goPerson 28 = .ok (.istore 4, 2) := by decide +kernel
theorem dX11_goPerson_30 : decode cX11_goPerson 30 = .ok (.iload_n 3, 1) := by decide +kernel
theorem dX11_goPerson_31 : decode cX11_goPerson 31 = .ok (.invokestatic 82, 3) := by decide +kernel
theorem dX11_goPerson_34 : decode cX11_goPerson 34 = .ok (.ifCond .eq 31, 3) := by decide +kernel
theorem dX11_goPerson_37 : decode cX11_goPerson 37 = .ok (.aload_n 0, 1) := by decide +kernel
theorem dX11_goPerson_38 : decode cX11_goPerson 38 = .ok (.getfield 93, 3) := by decide +kernel
theorem dX11_goPerson_41 : decode cX11_goPerson 41 = .ok (.iload_n 3, 1) := by decide +kernel
theorem dX11_goPerson_42 : decode cX11_goPerson 42 = .ok (.ishr, 1) := by decide +kernel
theorem dX11_goPerson_43 : decode cX11_goPerson 43 = .ok (.iconst 1, 1) := by decide +kernel
theorem dX11_goPerson_44 : decode cX11_goPerson 44 = .ok (.iand, 1) := by decide +kernel
theorem dX11_goPerson_45 : decode cX11_goPerson 45 = .ok (.ifCond .ne 20, 3) := by decide +kernel
theorem dX11_goPerson_48 : decode cX11_goPerson 48 = .ok (.aload_n 0, 1) := by decide +kernel
theorem dX11_goPerson_49 : decode cX11_goPerson 49 = .ok (.getfield 19, 3) := by decide +kernel
theorem dX11_goPerson_52 : decode cX11_goPerson 52 = .ok (.iload_n 2, 1) := by decide +kernel
theorem dX11_goPerson_53 : decode cX11_goPerson 53 = .ok (.iconst 1, 1) := by decide +kernel
theorem dX11_goPerson_54 : decode cX11_goPerson 54 = .ok (.iadd, 1) := by decide +kernel
theorem dX11_goPerson_55 : decode cX11_goPerson 55 = .ok (.iaload, 1) := by decide +kernel
theorem dX11_goPerson_56 : decode cX11_goPerson 56 = .ok (.iload 4, 2) := by decide +kernel
theorem dX11_goPerson_58 : decode cX11_goPerson 58 = .ok (.if_icmp .ge 7, 3) := by decide +kernel
theorem dX11_goPerson_61 : decode cX11_goPerson 61 = .ok (.iconst 1, 1) := by decide +kernel
theorem dX11_goPerson_62 : decode cX11_goPerson 62 = .ok (.goto 4, 3) := by decide +kernel
theorem dX11_goPerson_65 : decode cX11_goPerson 65 = .ok (.iconst 0, 1) := by decide +kernel
theorem dX11_goPerson_66 : decode cX11_goPerson 66 = .ok (.istore 5, 2) := by decide +kernel
theorem dX11_goPerson_68 : decode cX11_goPerson 68 = .ok (.iload 5, 2) := by decide +kernel
theorem dX11_goPerson_70 : decode cX11_goPerson 70 = .ok (.ifCond .eq 45, 3) := by decide +kernel
theorem dX11_goPerson_73 : decode cX11_goPerson 73 = .ok (.aload_n 0, 1) := by decide +kernel
theorem dX11_goPerson_74 : decode cX11_goPerson 74 = .ok (.dup, 1) := by decide +kernel
theorem dX11_goPerson_75 : decode cX11_goPerson 75 = .ok (.getfield 93, 3) := by decide +kernel
theorem dX11_goPerson_78 : decode cX11_goPerson 78 = .ok (.iconst 1, 1) := by decide +kernel
theorem dX11_goPerson_79 : decode cX11_goPerson 79 = .ok (.iload_n 3, 1) := by decide +kernel
theorem dX11_goPerson_80 : decode cX11_goPerson 80 = .ok (.ishl, 1) := by decide +kernel
theorem dX11_goPerson_81 : decode cX11_goPerson 81 = .ok (.ior, 1) := by decide +kernel
theorem dX11_goPerson_82 : decode cX11_goPerson 82 = .ok (.putfield 93, 3) := by decide +kernel
theorem dX11_goPerson_85 : decode cX11_goPerson 85 = .ok (.aload_n 0, 1) := by decide +kernel
theorem dX11_goPerson_86 : decode cX11_goPerson 86 = .ok (.getfield 19, 3) := by decide +kernel
theorem dX11_goPerson_89 : decode cX11_goPerson 89 = .ok (.iload_n 2, 1) := by decide +kernel
theorem dX11_goPerson_90 : decode cX11_goPerson 90 = .ok (.iconst 3, 1) := by decide +kernel
theorem dX11_goPerson_91 : decode cX11_goPerson 91 = .ok (.iadd, 1) := by decide +kernel
theorem dX11_goPerson_92 : decode cX11_goPerson 92 = .ok (.aload_n 0, 1) := by decide +kernel
theorem dX11_goPerson_93 : decode cX11_goPerson 93 = .ok (.getfield 19, 3) := by decide +kernel
theorem dX11_goPerson_96 : decode cX11_goPerson 96 = .ok (.iload_n 2, 1) := by decide +kernel
theorem dX11_goPerson_97 : decode cX11_goPerson 97 = .ok (.iconst 1, 1) := by decide +kernel
theorem dX11_goPerson_98 : decode cX11_goPerson 98 = .ok (.iadd, 1) := by decide +kernel
theorem dX11_goPerson_99 : decode cX11_goPerson 99 = .ok (.iaload, 1) := by decide +kernel
theorem dX11_goPerson_100 : decode cX11_goPerson 100 = .ok (.iadd, 1) := by decide +kernel
theorem dX11_goPerson_101 : decode cX11_goPerson 101 = .ok (.iload_n 3, 1) := by decide +kernel
theorem dX11_goPerson_102 : decode cX11_goPerson 102 = .ok (.iastore, 1) := by decide +kernel
theorem dX11_goPerson_103 : decode cX11_goPerson 103 = .ok (.aload_n 0, 1) := by decide +kernel
theorem dX11_goPerson_104 : decode cX11_goPerson 104 = .ok (.getfield 19, 3) := by decide +kernel
theorem dX11_goPerson_107 : decode cX11_goPerson 107 = .ok (.iload_n 2, 1) := by decide +kernel
theorem dX11_goPerson_108 : decode cX11_goPerson 108 = .ok (.iconst 1, 1) := by decide +kernel
theorem dX11_goPerson_109 : decode cX11_goPerson 109 = .ok (.iadd, 1) := by decide +kernel
theorem dX11_goPerson_110 : decode cX11_goPerson 110 = .ok (.dup2, 1) := by decide +kernel
theorem dX11_goPerson_111 : decode cX11_goPerson 111 = .ok (.iaload, 1) := by decide +kernel
theorem dX11_goPerson_112 : decode cX11_goPerson 112 = .ok (.iconst 1, 1) := by decide +kernel
theorem dX11_goPerson_113 : decode cX11_goPerson 113 = .ok (.iadd, 1) := by decide +kernel
theorem dX11_goPerson_114 : decode cX11_goPerson 114 = .ok (.iastore, 1) := by decide +kernel
theorem dX11_goPerson_115 : decode cX11_goPerson 115 = .ok (.aload_n 0, 1) := by decide +kernel
theorem dX11_goPerson_116 : decode cX11_goPerson 116 = .ok (.iconst 2, 1) := by decide +kernel
theorem dX11_goPerson_117 : decode cX11_goPerson 117 = .ok (.putfield 96, 3) := by decide +kernel
theorem dX11_goPerson_120 : decode cX11_goPerson 120 = .ok (.iload 5, 2) := by decide +kernel
theorem dX11_goPerson_122 : decode cX11_goPerson 122 = .ok (.ireturn, 1) := by decide +kernel
theorem dX11_isBirth_0 : decode cX11_isBirth 0 = .ok (.aload_n 0, 1) := by decide +kernel
theorem dX11_isBirth_1 : decode cX11_isBirth 1 = .ok (.getfield 19, 3) := by decide +kernel
theorem dX11_isBirth_4 : decode cX11_isBirth 4 = .ok (.bipush 7, 2) := by decide +kernel
theorem dX11_isBirth_6 : decode cX11_isBirth 6 = .ok (.aload_n 0, 1) := by decide +kernel
theorem dX11_isBirth_7 : decode cX11_isBirth 7 = .ok (.getfield 90, 3) := by decide +kernel
theorem dX11_isBirth_10 : decode cX11_isBirth 10 = .ok (.imul, 1) := by decide +kernel
theorem dX11_isBirth_11 : decode cX11_isBirth 11 = .ok (.iconst 1, 1) := by decide +kernel
theorem dX11_isBirth_12 : decode cX11_isBirth 12 = .ok (.iadd, 1) := by decide +kernel
theorem dX11_isBirth_13 : decode cX11_isBirth 13 = .ok (.iaload, 1) := by decide +kernel
theorem dX11_isBirth_14 : decode cX11_isBirth 14 = .ok (.istore_n 1, 1) := by decide +kernel
theorem dX11_isBirth_15 : decode cX11_isBirth 15 = .ok (.aload_n 0, 1) := by decide +kernel
theorem dX11_isBirth_16 : decode cX11_isBirth 16 = .ok (.getfield 96, 3) := by decide +kernel
theorem dX11_isBirth_19 : decode cX11_isBirth 19 = .ok (.iconst 2, 1) := by decide +kernel
theorem dX11_isBirth_20 : decode cX11_isBirth 20 = .ok (.if_icmp .ne 32, 3) := by decide +kernel
theorem dX11_isBirth_23 : decode cX11_isBirth 23 = .ok (.iload_n 1, 1) := by decide +kernel
theorem dX11_isBirth_24 : decode cX11_isBirth 24 = .ok (.aload_n 0, 1) := by decide +kernel
theorem dX11_isBirth_25 : decode cX11_isBirth 25 = .ok (.getfield 19, 3) := by decide +kernel
theorem dX11_isBirth_28 : decode cX11_isBirth 28 = .ok (.bipush 7, 2) := by decide +kernel
theorem dX11_isBirth_30 : decode cX11_isBirth 30 = .ok (.aload_n 0, 1) := by decide +kernel
theorem dX11_isBirth_31 : decode cX11_isBirth 31 = .ok (.getfield 90, 3) := by decide +kernel
theorem dX11_isBirth_34 : decode cX11_isBirth 34 = .ok (.imul, 1) := by decide +kernel
theorem dX11_isBirth_35 : decode cX11_isBirth 35 = .ok (.iaload, 1) := by decide +kernel
theorem dX11_isBirth_36 : decode cX11_isBirth 36 = .ok (.iconst 1, 1) := by decide +kernel
theorem dX11_isBirth_37 : decode cX11_isBirth 37 = .ok (.if_icmp .ne 7, 3) := by decide +kernel
theorem dX11_isBirth_40 : decode cX11_isBirth 40 = .ok (.iconst 3, 1) := by decide +kernel
theorem dX11_isBirth_41 : decode cX11_isBirth 41 = .ok (.goto 4, 3) := by decide +kernel
theorem dX11_isBirth_44 : decode cX11_isBirth 44 = .ok (.iconst 2, 1) := by decide +kernel
theorem dX11_isBirth_45 : decode cX11_isBirth 45 = .ok (.if_icmp .lt 7, 3) := by decide +kernel
theorem dX11_isBirth_48 : decode cX11_isBirth 48 = .ok (.iconst 1, 1) := by decide +kernel
theorem dX11_isBirth_49 : decode cX11_isBirth 49 = .ok (.goto 4, 3) := by decide +kernel
theorem dX11_isBirth_52 : decode cX11_isBirth 52 = .ok (.iconst 0, 1) := by decide +kernel
theorem dX11_isBirth_53 : decode cX11_isBirth 53 = .ok (.ireturn, 1) := by decide +kernel
theorem dX11_go_0 : decode cX11_go 0 = .ok (.bipush 7, 2) := by decide +kernel
theorem dX11_go_2 : decode cX11_go 2 = .ok (.aload_n 0, 1) := by decide +kernel
theorem dX11_go_3 : decode cX11_go 3 = .ok (.getfield 90, 3) := by decide +kernel
theorem dX11_go_6 : decode cX11_go 6 = .ok (.imul, 1) := by decide +kernel
theorem dX11_go_7 : decode cX11_go 7 = .ok (.istore_n 2, 1) := by decide +kernel
theorem dX11_go_8 : decode cX11_go 8 = .ok (.aload_n 0, 1) := by decide +kernel
theorem dX11_go_9 : decode cX11_go 9 = .ok (.getfield 96, 3) := by decide +kernel
theorem dX11_go_12 : decode cX11_go 12 = .ok (.ifCond .ne 116, 3) := by decide +kernel
theorem dX11_go_15 : decode cX11_go 15 = .ok (.aload_n 0, 1) := by decide +kernel
theorem dX11_go_16 : decode cX11_go 16 = .ok (.getfield 19, 3) := by decide +kernel
theorem dX11_go_19 : decode cX11_go 19 = .ok (.iload_n 2, 1) := by decide +kernel
theorem dX11_go_20 : decode cX11_go 20 = .ok (.iload_n 1, 1) := by decide +kernel
theorem dX11_go_21 : decode cX11_go 21 = .ok (.bipush 111, 2) := by decide +kernel
theorem dX11_go_23 : decode cX11_go 23 = .ok (.if_icmp .ne 7, 3) := by decide +kernel
theorem dX11_go_26 : decode cX11_go 26 = .ok (.iconst 1, 1) := by decide +kernel
theorem dX11_go_27 : decode cX11_go 27 = .ok (.goto 24, 3) := by decide +kernel
theorem dX11_go_30 : decode cX11_go 30 = .ok (.iload_n 1, 1) := by decide +kernel
theorem dX11_go_31 : decode cX11_go 31 = .ok (.bipush 63, 2) := by decide +kernel
theorem dX11_go_33 : decode cX11_go 33 = .ok (.if_icmp .ne 7, 3) := by decide +kernel
theorem dX11_go_36 : decode cX11_go 36 = .ok (.iconst 2, 1) := by decide +kernel
theorem dX11_go_37 : decode cX11_go 37 = .ok (.goto 14, 3) := by decide +kernel
theorem dX11_go_40 : decode cX11_go 40 = .ok (.iload_n 1, 1) := by decide +kernel
theorem dX11_go_41 : decode cX11_go 41 = .ok (.bipush 43, 2) := by decide +kernel
theorem dX11_go_43 : decode cX11_go 43 = .ok (.if_icmp .ne 7, 3) := by decide +kernel
theorem dX11_go_46 : decode cX11_go 46 = .ok (.iconst 3, 1) := by decide +kernel
theorem dX11_go_47 : decode cX11_go 47 = .ok (.goto 4, 3) := by decide +kernel
theorem dX11_go_50 : decode cX11_go 50 = .ok (.iconst 0, 1) := by decide +kernel
theorem dX11_go_51 : decode cX11_go 51 = .ok (.iastore, 1) := by decide +kernel
theorem dX11_go_52 : decode cX11_go 52 = .ok (.iconst 1, 1) := by decide +kernel
theorem dX11_go_53 : decode cX11_go 53 = .ok (.istore_n 3, 1) := by decide +kernel
theorem dX11_go_54 : decode cX11_go 54 = .ok (.iload_n 3, 1) := by decide +kernel
theorem dX11_go_55 : decode cX11_go 55 = .ok (.bipush 7, 2) := by decide +kernel
theorem dX11_go_57 : decode cX11_go 57 = .ok (.if_icmp .ge 27, 3) := by decide +kernel
theorem dX11_go_60 : decode cX11_go 60 = .ok (.aload_n 0, 1) := by decide +kernel
theorem dX11_go_61 : decode cX11_go 61 = .ok (.getfield 19, 3) := by decide +kernel
theorem dX11_go_64 : decode cX11_go 64 = .ok (.iload_n 2, 1) := by decide +kernel
theorem dX11_go_65 : decode cX11_go 65 = .ok (.iload_n 3, 1) := by decide +kernel
theorem dX11_go_66 : decode cX11_go 66 = .ok (.iadd, 1) := by decide +kernel
theorem dX11_go_67 : decode cX11_go 67 = .ok (.iload_n 3, 1) := by decide +kernel
theorem dX11_go_68 : decode cX11_go 68 = .ok (.iconst 3, 1) := by decide +kernel
theorem dX11_go_69 : decode cX11_go 69 = .ok (.if_icmp .ge 7, 3) := by decide +kernel
theorem dX11_go_72 : decode cX11_go 72 = .ok (.iconst 0, 1) := by decide +kernel
theorem dX11_go_73 : decode cX11_go 73 = .ok (.goto 4, 3) := by decide +kernel
theorem dX11_go_76 : decode cX11_go 76 = .ok (.iconst (-1), 1) := by decide +kernel
theorem dX11_go_77 : decode cX11_go 77 = .ok (.iastore, 1) := by decide +kernel
theorem dX11_go_78 : decode cX11_go 78 = .ok (.iinc 3 1, 3) := by decide +kernel
theorem dX11_go_81 : decode cX11_go 81 = .ok (.goto (-27), 3) := by decide +kernel
theorem dX11_go_84 : decode cX11_go 84 = .ok (.aload_n 0, 1) := by decide +kernel
theorem dX11_go_85 : decode cX11_go 85 = .ok (.iload_n 1, 1) := by decide +kernel
theorem dX11_go_86 : decode cX11_go 86 = .ok (.bipush 63, 2) := by decide +kernel
theorem dX11_go_88 : decode cX11_go 88 = .ok (.if_icmp .eq 9, 3) := by decide +kernel
theorem dX11_go_91 : decode cX11_go 91 = .ok (.iload_n 1, 1) := by decide +kernel
theorem dX11_go_92 : decode cX11_go 92 = .ok (.bipush 43, 2) := by decide +kernel
theorem dX11_go_94 : decode cX11_go 94 = .ok (.if_icmp .ne 7, 3) := by decide +kernel
theorem dX11_go_97 : decode cX11_go 97 = .ok (.iconst 1, 1) := by decide +kernel
theorem dX11_go_98 : decode cX11_go 98 = .ok (.goto 4, 3) := by decide +kernel
theorem dX11_go_101 : decode cX11_go 101 = .ok (.iconst 2, 1) := by decide +kernel
theorem dX11_go_102 : decode cX11_go 102 = .ok (.putfield 96, 3) := by decide +kernel
theorem dX11_go_105 : decode cX11_go 105 = .ok (.aload_n 0, 1) := by decide +kernel
theorem dX11_go_106 : decode cX11_go 106 = .ok (.getfield 19, 3) := by decide +kernel
theorem dX11_go_109 : decode cX11_go 109 = .ok (.iload_n 2, 1) := by decide +kernel
theorem dX11_go_110 : decode cX11_go 110 = .ok (.iaload, 1) := by decide +kernel
theorem dX11_go_111 : decode cX11_go 111 = .ok (.ifCond .gt 11, 3) := by decide +kernel
theorem dX11_go_114 : decode cX11_go 114 = .ok (.aload_n 0, 1) := by decide +kernel
theorem dX11_go_115 : decode cX11_go 115 = .ok (.iload_n 1, 1) := by decide +kernel
theorem dX11_go_116 : decode cX11_go 116 = .ok (.invokevirtual 99, 3) := by decide +kernel
theorem dX11_go_119 : decode cX11_go 119 = .ok (.ifCond .eq 7, 3) := by decide +kernel
theorem dX11_go_122 : decode cX11_go 122 = .ok (.iconst 1, 1) := by decide +kernel
theorem dX11_go_123 : decode cX11_go 123 = .ok (.goto 4, 3) := by decide +kernel
theorem dX11_go_126 : decode cX11_go 126 = .ok (.iconst 0, 1) := by decide +kernel
theorem dX11_go_127 : decode cX11_go 127 = .ok (.ireturn, 1) := by decide +kernel
theorem dX11_go_128 : decode cX11_go 128 = .ok (.aload_n 0, 1) := by decide +kernel
theorem dX11_go_129 : decode cX11_go 129 = .ok (.getfield 96, 3) := by decide +kernel
theorem dX11_go_132 : decode cX11_go 132 = .ok (.iconst 1, 1) := by decide +kernel
theorem dX11_go_133 : decode cX11_go 133 = .ok (.if_icmp .ne 32, 3) := by decide +kernel
theorem dX11_go_136 : decode cX11_go 136 = .ok (.aload_n 0, 1) := by decide +kernel
theorem dX11_go_137 : decode cX11_go 137 = .ok (.getfield 19, 3) := by decide +kernel
theorem dX11_go_140 : decode cX11_go 140 = .ok (.iload_n 2, 1) := by decide +kernel
theorem dX11_go_141 : decode cX11_go 141 = .ok (.iconst 2, 1) := by decide +kernel
theorem dX11_go_142 : decode cX11_go 142 = .ok (.iadd, 1) := by decide +kernel
theorem dX11_go_143 : decode cX11_go 143 = .ok (.iload_n 1, 1) := by decide +kernel
theorem dX11_go_144 : decode cX11_go 144 = .ok (.bipush 48, 2) := by decide +kernel
theorem dX11_go_146 : decode cX11_go 146 = .ok (.isub, 1) := by decide +kernel
theorem dX11_go_147 : decode cX11_go 147 = .ok (.iastore, 1) := by decide +kernel
theorem dX11_go_148 : decode cX11_go 148 = .ok (.aload_n 0, 1) := by decide +kernel
theorem dX11_go_149 : decode cX11_go 149 = .ok (.iconst 2, 1) := by decide +kernel
theorem dX11_go_150 : decode cX11_go 150 = .ok (.putfield 96, 3) := by decide +kernel
theorem dX11_go_153 : decode cX11_go 153 = .ok (.iload_n 1, 1) := by decide +kernel
theorem dX11_go_154 : decode cX11_go 154 = .ok (.i2l, 1) := by decide +kernel
theorem dX11_go_155 : decode cX11_go 155 = .ok (.ldc2_w 102, 3) := by decide +kernel
theorem dX11_go_158 : decode cX11_go 158 = .ok (.ldc2_w 104, 3) := by decide +kernel
theorem dX11_go_161 : decode cX11_go 161 = .ok (.invokestatic 70, 3) := by decide +kernel
theorem dX11_go_164 : decode cX11_go 164 = .ok (.ireturn, 1) := by decide +kernel
theorem dX11_go_165 : decode cX11_go 165 = .ok (.iload_n 1, 1) := by decide +kernel
theorem dX11_go_166 : decode cX11_go 166 = .ok (.bipush 44, 2) := by decide +kernel
theorem dX11_go_168 : decode cX11_go 168 = .ok (.if_icmp .ne 60, 3) := by decide +kernel
theorem dX11_go_171 : decode cX11_go 171 = .ok (.aload_n 0, 1) := by decide +kernel
theorem dX11_go_172 : decode cX11_go 172 = .ok (.invokevirtual 106, 3) := by decide +kernel
theorem dX11_go_175 : decode cX11_go 175 = .ok (.ifCond .eq 15, 3) := by decide +kernel
theorem dX11_go_178 : decode cX11_go 178 = .ok (.aload_n 0, 1) := by decide +kernel
theorem dX11_go_179 : decode cX11_go 179 = .ok (.getfield 90, 3) := by decide +kernel
theorem dX11_go_182 : decode cX11_go 182 = .ok (.iconst 4, 1) := by decide +kernel
theorem dX11_go_183 : decode cX11_go 183 = .ok (.if_icmp .ge 7, 3) := by decide +kernel
theorem dX11_go_186 : decode cX11_go 186 = .ok (.iconst 1, 1) := by decide +kernel
theorem dX11_go_187 : decode cX11_go 187 = .ok (.goto 4, 3) := by decide +kernel
theorem dX11_go_190 : decode cX11_go 190 = .ok (.iconst 0, 1) := by decide +kernel
theorem dX11_go_191 : decode cX11_go 191 = .ok (.istore_n 3, 1) := by decide +kernel
theorem dX11_go_192 : decode cX11_go 192 = .ok (.aload_n 0, 1) := by decide +kernel
theorem dX11_go_193 : decode cX11_go 193 = .ok (.dup, 1) := by decide +kernel
theorem dX11_go_194 : decode cX11_go 194 = .ok (.getfield 90, 3) := by decide +kernel
theorem dX11_go_197 : decode cX11_go 197 = .ok (.iload_n 3, 1) := by decide +kernel
theorem dX11_go_198 : decode cX11_go 198 = .ok (.ifCond .eq 7, 3) := by decide +kernel
theorem dX11_go_201 : decode cX11_go 201 = .ok (.iconst 1, 1) := by decide +kernel
theorem dX11_go_202 : decode cX11_go 202 = .ok (.goto 4, 3) := by decide +kernel
theorem dX11_go_205 : decode cX11_go 205 = .ok (.iconst 0, 1) := by decide +kernel
theorem dX11_go_206 : decode cX11_go 206 = .ok (.iadd, 1) := by decide +kernel
theorem dX11_go_207 : decode cX11_go 207 = .ok (.putfield 90, 3) := by decide +kernel
theorem dX11_go_210 : decode cX11_go 210 = .ok (.aload_n 0, 1) := by decide +kernel
theorem dX11_go_211 : decode cX11_go 211 = .ok (.iload_n 3, 1) := by decide +kernel
theorem dX11_go_212 : decode cX11_go 212 = .ok (.ifCond .eq 7, 3) := by decide +kernel
theorem dX11_go_215 : decode cX11_go 215 = .ok (.iconst 0, 1) := by decide +kernel
theorem dX11_go_216 : decode cX11_go 216 = .ok (.goto 7, 3) := by decide +kernel
theorem dX11_go_219 : decode cX11_go 219 = .ok (.aload_n 0, 1) := by decide +kernel
theorem dX11_go_220 : decode cX11_go 220 = .ok (.getfield 96, 3) := by decide +kernel
theorem dX11_go_223 : decode cX11_go 223 = .ok (.putfield 96, 3) := by decide +kernel
theorem dX11_go_226 : decode cX11_go 226 = .ok (.iload_n 3, 1) := by decide +kernel
theorem dX11_go_227 : decode cX11_go 227 = .ok (.ireturn, 1) := by decide +kernel
theorem dX11_go_228 : decode cX11_go 228 = .ok (.aload_n 0, 1) := by decide +kernel
theorem dX11_go_229 : decode cX11_go 229 = .ok (.iload_n 1, 1) := by decide +kernel
theorem dX11_go_230 : decode cX11_go 230 = .ok (.invokevirtual 99, 3) := by decide +kernel
theorem dX11_go_233 : decode cX11_go 233 = .ok (.ireturn, 1) := by decide +kernel
theorem dX11_faultOf_0 : decode cX11_faultOf 0 = .ok (.aload_n 0, 1) := by decide +kernel
theorem dX11_faultOf_1 : decode cX11_faultOf 1 = .ok (.iconst 0, 1) := by decide +kernel
theorem dX11_faultOf_2 : decode cX11_faultOf 2 = .ok (.putfield 90, 3) := by decide +kernel
theorem dX11_faultOf_5 : decode cX11_faultOf 5 = .ok (.aload_n 0, 1) := by decide +kernel
theorem dX11_faultOf_6 : decode cX11_faultOf 6 = .ok (.iconst 0, 1) := by decide +kernel
theorem dX11_faultOf_7 : decode cX11_faultOf 7 = .ok (.putfield 93, 3) := by decide +kernel

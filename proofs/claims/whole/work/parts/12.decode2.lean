theorem dX4_isWithinByOne_0 : decode cX4_isWithinByOne 0 = .ok (.iconst 0, 1) := by decide +kernel
theorem dX4_isWithinByOne_1 : decode cX4_isWithinByOne 1 = .ok (.istore_n 2, 1) := by decide +kernel
theorem dX4_isWithinByOne_2 : decode cX4_isWithinByOne 2 = .ok (.iload_n 2, 1) := by decide +kernel
theorem dX4_isWithinByOne_3 : decode cX4_isWithinByOne 3 = .ok (.bipush 15, 2) := by decide +kernel
theorem dX4_isWithinByOne_5 : decode cX4_isWithinByOne 5 = .ok (.if_icmp .ge 38, 3) := by decide +kernel
theorem dX4_isWithinByOne_8 : decode cX4_isWithinByOne 8 = .ok (.aload_n 0, 1) := by decide +kernel
theorem dX4_isWithinByOne_9 : decode cX4_isWithinByOne 9 = .ok (.getfield 18, 3) := by decide +kernel
theorem dX4_isWithinByOne_12 : decode cX4_isWithinByOne 12 = .ok (.iload_n 1, 1) := by decide +kernel
theorem dX4_isWithinByOne_13 : decode cX4_isWithinByOne 13 = .ok (.getstatic 92, 3) := by decide +kernel
theorem dX4_isWithinByOne_16 : decode cX4_isWithinByOne 16 = .ok (.iload_n 2, 1) := by decide +kernel
theorem dX4_isWithinByOne_17 : decode cX4_isWithinByOne 17 = .ok (.iaload, 1) := by decide +kernel
theorem dX4_isWithinByOne_18 : decode cX4_isWithinByOne 18 = .ok (.getstatic 95, 3) := by decide +kernel
theorem dX4_isWithinByOne_21 : decode cX4_isWithinByOne 21 = .ok (.iload_n 2, 1) := by decide +kernel
theorem dX4_isWithinByOne_22 : decode cX4_isWithinByOne 22 = .ok (.iaload, 1) := by decide +kernel
theorem dX4_isWithinByOne_23 : decode cX4_isWithinByOne 23 = .ok (.invokevirtual 98, 3) := by decide +kernel
theorem dX4_isWithinByOne_26 : decode cX4_isWithinByOne 26 = .ok (.ifCond .eq 11, 3) := by decide +kernel
theorem dX4_isWithinByOne_29 : decode cX4_isWithinByOne 29 = .ok (.aload_n 0, 1) := by decide +kernel
theorem dX4_isWithinByOne_30 : decode cX4_isWithinByOne 30 = .ok (.iconst 0, 1) := by decide +kernel
theorem dX4_isWithinByOne_31 : decode cX4_isWithinByOne 31 = .ok (.iload_n 2, 1) := by decide +kernel
theorem dX4_isWithinByOne_32 : decode cX4_isWithinByOne 32 = .ok (.invokevirtual 102, 3) := by decide +kernel
theorem dX4_isWithinByOne_35 : decode cX4_isWithinByOne 35 = .ok (.iconst 1, 1) := by decide +kernel
theorem dX4_isWithinByOne_36 : decode cX4_isWithinByOne 36 = .ok (.ireturn, 1) := by decide +kernel
theorem dX4_isWithinByOne_37 : decode cX4_isWithinByOne 37 = .ok (.iinc 2 1, 3) := by decide +kernel
theorem dX4_isWithinByOne_40 : decode cX4_isWithinByOne 40 = .ok (.goto (-38), 3) := by decide +kernel
theorem dX4_isWithinByOne_43 : decode cX4_isWithinByOne 43 = .ok (.iconst 0, 1) := by decide +kernel
theorem dX4_isWithinByOne_44 : decode cX4_isWithinByOne 44 = .ok (.ireturn, 1) := by decide +kernel
theorem dX4_isWithinByTwo_0 : decode cX4_isWithinByTwo 0 = .ok (.iconst 0, 1) := by decide +kernel
theorem dX4_isWithinByTwo_1 : decode cX4_isWithinByTwo 1 = .ok (.istore_n 2, 1) := by decide +kernel
theorem dX4_isWithinByTwo_2 : decode cX4_isWithinByTwo 2 = .ok (.iload_n 2, 1) := by decide +kernel
theorem dX4_isWithinByTwo_3 : decode cX4_isWithinByTwo 3 = .ok (.bipush 15, 2) := by decide +kernel
theorem dX4_isWithinByTwo_5 : decode cX4_isWithinByTwo 5 = .ok (.if_icmp .ge 81, 3) := by decide +kernel
theorem dX4_isWithinByTwo_8 : decode cX4_isWithinByTwo 8 = .ok (.aload_n 0, 1) := by decide +kernel
theorem dX4_isWithinByTwo_9 : decode cX4_isWithinByTwo 9 = .ok (.getfield 22, 3) := by decide +kernel
theorem dX4_isWithinByTwo_12 : decode cX4_isWithinByTwo 12 = .ok (.aload_n 0, 1) := by decide +kernel
theorem dX4_isWithinByTwo_13 : decode cX4_isWithinByTwo 13 = .ok (.getfield 18, 3) := by decide +kernel
theorem dX4_isWithinByTwo_16 : decode cX4_isWithinByTwo 16 = .ok (.getstatic 92, 3) := by decide +kernel
theorem dX4_isWithinByTwo_19 : decode cX4_isWithinByTwo 19 = .ok (.iload_n 2, 1) := by decide +kernel
theorem dX4_isWithinByTwo_20 : decode cX4_isWithinByTwo 20 = .ok (.iaload, 1) := by decide +kernel
theorem dX4_isWithinByTwo_21 : decode cX4_isWithinByTwo 21 = .ok (.getstatic 95, 3) := by decide +kernel
theorem dX4_isWithinByTwo_24 : decode cX4_isWithinByTwo 24 = .ok (.iload_n 2, 1) := by decide +kernel
theorem dX4_isWithinByTwo_25 : decode cX4_isWithinByTwo 25 = .ok (.iaload, 1) := by decide +kernel
theorem dX4_isWithinByTwo_26 : decode cX4_isWithinByTwo 26 = .ok (.invokevirtual 106, 3) := by decide +kernel
theorem dX4_isWithinByTwo_29 : decode cX4_isWithinByTwo 29 = .ok (.iload_n 2, 1) := by decide +kernel
theorem dX4_isWithinByTwo_30 : decode cX4_isWithinByTwo 30 = .ok (.iconst 1, 1) := by decide +kernel
theorem dX4_isWithinByTwo_31 : decode cX4_isWithinByTwo 31 = .ok (.iadd, 1) := by decide +kernel
theorem dX4_isWithinByTwo_32 : decode cX4_isWithinByTwo 32 = .ok (.istore_n 3, 1) := by decide +kernel
theorem dX4_isWithinByTwo_33 : decode cX4_isWithinByTwo 33 = .ok (.iload_n 3, 1) := by decide +kernel
theorem dX4_isWithinByTwo_34 : decode cX4_isWithinByTwo 34 = .ok (.bipush 15, 2) := by decide +kernel
theorem dX4_isWithinByTwo_36 : decode cX4_isWithinByTwo 36 = .ok (.if_icmp .ge 44, 3) := by decide +kernel
theorem dX4_isWithinByTwo_39 : decode cX4_isWithinByTwo 39 = .ok (.aload_n 0, 1) := by decide +kernel
theorem dX4_isWithinByTwo_40 : decode cX4_isWithinByTwo 40 = .ok (.getfield 22, 3) := by decide +kernel
theorem dX4_isWithinByTwo_43 : decode cX4_isWithinByTwo 43 = .ok (.iload_n 1, 1) := by decide +kernel
theorem dX4_isWithinByTwo_44 : decode cX4_isWithinByTwo 44 = .ok (.getstatic 92, 3) := by decide +kernel
theorem dX4_isWithinByTwo_47 : decode cX4_isWithinByTwo 47 = .ok (.iload_n 3, 1) := by decide +kernel
theorem dX4_isWithinByTwo_48 : decode cX4_isWithinByTwo 48 = .ok (.iaload, 1) := by decide +kernel
theorem dX4_isWithinByTwo_49 : decode cX4_isWithinByTwo 49 = .ok (.getstatic 95, 3) := by decide +kernel
theorem dX4_isWithinByTwo_52 : decode cX4_isWithinByTwo 52 = .ok (.iload_n 3, 1) := by decide +kernel
theorem dX4_isWithinByTwo_53 : decode cX4_isWithinByTwo 53 = .ok (.iaload, 1) := by decide +kernel
theorem dX4_isWithinByTwo_54 : decode cX4_isWithinByTwo 54 = .ok (.invokevirtual 98, 3) := by decide +kernel
theorem dX4_isWithinByTwo_57 : decode cX4_isWithinByTwo 57 = .ok (.ifCond .eq 17, 3) := by decide +kernel
theorem dX4_isWithinByTwo_60 : decode cX4_isWithinByTwo 60 = .ok (.aload_n 0, 1) := by decide +kernel
theorem dX4_isWithinByTwo_61 : decode cX4_isWithinByTwo 61 = .ok (.iconst 0, 1) := by decide +kernel
theorem dX4_isWithinByTwo_62 : decode cX4_isWithinByTwo 62 = .ok (.iload_n 2, 1) := by decide +kernel
theorem dX4_isWithinByTwo_63 : decode cX4_isWithinByTwo 63 = .ok (.invokevirtual 102, 3) := by decide +kernel
theorem dX4_isWithinByTwo_66 : decode cX4_isWithinByTwo 66 = .ok (.aload_n 0, 1) := by decide +kernel
theorem dX4_isWithinByTwo_67 : decode cX4_isWithinByTwo 67 = .ok (.iconst 2, 1) := by decide +kernel
theorem dX4_isWithinByTwo_68 : decode cX4_isWithinByTwo 68 = .ok (.iload_n 3, 1) := by decide +kernel
theorem dX4_isWithinByTwo_69 : decode cX4_isWithinByTwo 69 = .ok (.invokevirtual 102, 3) := by decide +kernel
theorem dX4_isWithinByTwo_72 : decode cX4_isWithinByTwo 72 = .ok (.iconst 1, 1) := by decide +kernel
theorem dX4_isWithinByTwo_73 : decode cX4_isWithinByTwo 73 = .ok (.ireturn, 1) := by decide +kernel
theorem dX4_isWithinByTwo_74 : decode cX4_isWithinByTwo 74 = .ok (.iinc 3 1, 3) := by decide +kernel
theorem dX4_isWithinByTwo_77 : decode cX4_isWithinByTwo 77 = .ok (.goto (-44), 3) := by decide +kernel
theorem dX4_isWithinByTwo_80 : decode cX4_isWithinByTwo 80 = .ok (.iinc 2 1, 3) := by decide +kernel
theorem dX4_isWithinByTwo_83 : decode cX4_isWithinByTwo 83 = .ok (.goto (-81), 3) := by decide +kernel
theorem dX4_isWithinByTwo_86 : decode cX4_isWithinByTwo 86 = .ok (.iconst 0, 1) := by decide +kernel
theorem dX4_isWithinByTwo_87 : decode cX4_isWithinByTwo 87 = .ok (.ireturn, 1) := by decide +kernel
theorem dX4_notePair_0 : decode cX4_notePair 0 = .ok (.aload_n 0, 1) := by decide +kernel
theorem dX4_notePair_1 : decode cX4_notePair 1 = .ok (.getfield 25, 3) := by decide +kernel
theorem dX4_notePair_4 : decode cX4_notePair 4 = .ok (.iload_n 1, 1) := by decide +kernel
theorem dX4_notePair_5 : decode cX4_notePair 5 = .ok (.getstatic 92, 3) := by decide +kernel
theorem dX4_notePair_8 : decode cX4_notePair 8 = .ok (.iload_n 2, 1) := by decide +kernel
theorem dX4_notePair_9 : decode cX4_notePair 9 = .ok (.iaload, 1) := by decide +kernel
theorem dX4_notePair_10 : decode cX4_notePair 10 = .ok (.iastore, 1) := by decide +kernel
theorem dX4_notePair_11 : decode cX4_notePair 11 = .ok (.aload_n 0, 1) := by decide +kernel
theorem dX4_notePair_12 : decode cX4_notePair 12 = .ok (.getfield 25, 3) := by decide +kernel
theorem dX4_notePair_15 : decode cX4_notePair 15 = .ok (.iload_n 1, 1) := by decide +kernel
theorem dX4_notePair_16 : decode cX4_notePair 16 = .ok (.iconst 1, 1) := by decide +kernel
theorem dX4_notePair_17 : decode cX4_notePair 17 = .ok (.iadd, 1) := by decide +kernel
theorem dX4_notePair_18 : decode cX4_notePair 18 = .ok (.getstatic 95, 3) := by decide +kernel
theorem dX4_notePair_21 : decode cX4_notePair 21 = .ok (.iload_n 2, 1) := by decide +kernel
theorem dX4_notePair_22 : decode cX4_notePair 22 = .ok (.iaload, 1) := by decide +kernel
theorem dX4_notePair_23 : decode cX4_notePair 23 = .ok (.iastore, 1) := by decide +kernel
theorem dX4_notePair_24 : decode cX4_notePair 24 = .ok (.return_, 1) := by decide +kernel
theorem dX5_init_0 : decode cX5_init 0 = .ok (.aload_n 0, 1) := by decide +kernel
theorem dX5_init_1 : decode cX5_init 1 = .ok (.invokespecial 3, 3) := by decide +kernel
theorem dX5_init_4 : decode cX5_init 4 = .ok (.aload_n 0, 1) := by decide +kernel
theorem dX5_init_5 : decode cX5_init 5 = .ok (.bipush 32, 2) := by decide +kernel
theorem dX5_init_7 : decode cX5_init 7 = .ok (.newarray .int, 2) := by decide +kernel
theorem dX5_init_9 : decode cX5_init 9 = .ok (.putfield 11, 3) := by decide +kernel
theorem dX5_init_12 : decode cX5_init 12 = .ok (.return_, 1) := by decide +kernel
theorem dX5_size_0 : decode cX5_size 0 = .ok (.aload_n 0, 1) := by decide +kernel
theorem dX5_size_1 : decode cX5_size 1 = .ok (.getfield 15, 3) := by decide +kernel
theorem dX5_size_4 : decode cX5_size 4 = .ok (.ireturn, 1) := by decide +kernel
theorem dX5_at_0 : decode cX5_at 0 = .ok (.iload_n 1, 1) := by decide +kernel
theorem dX5_at_1 : decode cX5_at 1 = .ok (.ifCond .lt 26, 3) := by decide +kernel
theorem dX5_at_4 : decode cX5_at 4 = .ok (.iload_n 1, 1) := by decide +kernel
theorem dX5_at_5 : decode cX5_at 5 = .ok (.aload_n 0, 1) := by decide +kernel
theorem dX5_at_6 : decode cX5_at 6 = .ok (.getfield 15, 3) := by decide +kernel
theorem dX5_at_9 : decode cX5_at 9 = .ok (.if_icmp .ge 18, 3) := by decide +kernel
theorem dX5_at_12 : decode cX5_at 12 = .ok (.iload_n 1, 1) := by decide +kernel
theorem dX5_at_13 : decode cX5_at 13 = .ok (.bipush 32, 2) := by decide +kernel
theorem dX5_at_15 : decode cX5_at 15 = .ok (.if_icmp .ge 12, 3) := by decide +kernel
theorem dX5_at_18 : decode cX5_at 18 = .ok (.aload_n 0, 1) := by decide +kernel
theorem dX5_at_19 : decode cX5_at 19 = .ok (.getfield 11, 3) := by decide +kernel
theorem dX5_at_22 : decode cX5_at 22 = .ok (.iload_n 1, 1) := by decide +kernel
theorem dX5_at_23 : decode cX5_at 23 = .ok (.iaload, 1) := by decide +kernel
theorem dX5_at_24 : decode cX5_at 24 = .ok (.goto 4, 3) := by decide +kernel
theorem dX5_at_27 : decode cX5_at 27 = .ok (.iconst (-1), 1) := by decide +kernel
theorem dX5_at_28 : decode cX5_at 28 = .ok (.ireturn, 1) := by decide +kernel
theorem dX5_clear_0 : decode cX5_clear 0 = .ok (.aload_n 0, 1) := by decide +kernel
theorem dX5_clear_1 : decode cX5_clear 1 = .ok (.iconst 0, 1) := by decide +kernel
theorem dX5_clear_2 : decode cX5_clear 2 = .ok (.putfield 15, 3) := by decide +kernel
theorem dX5_clear_5 : decode cX5_clear 5 = .ok (.return_, 1) := by decide +kernel
theorem dX5_write_0 : decode cX5_write 0 = .ok (.lload_n 1, 1) := by decide +kernel
theorem dX5_write_1 : decode cX5_write 1 = .ok (.invokestatic 19, 3) := by decide +kernel
theorem dX5_write_4 : decode cX5_write 4 = .ok (.istore_n 3, 1) := by decide +kernel
theorem dX5_write_5 : decode cX5_write 5 = .ok (.iload_n 3, 1) := by decide +kernel
theorem dX5_write_6 : decode cX5_write 6 = .ok (.ifCond .ge 6, 3) := by decide +kernel
theorem dX5_write_9 : decode cX5_write 9 = .ok (.bipush (-102), 2) := by decide +kernel
theorem dX5_write_11 : decode cX5_write 11 = .ok (.ireturn, 1) := by decide +kernel
theorem dX5_write_12 : decode cX5_write 12 = .ok (.aload_n 0, 1) := by decide +kernel
theorem dX5_write_13 : decode cX5_write 13 = .ok (.getfield 15, 3) := by decide +kernel
theorem dX5_write_16 : decode cX5_write 16 = .ok (.iload_n 3, 1) := by decide +kernel
theorem dX5_write_17 : decode cX5_write 17 = .ok (.iadd, 1) := by decide +kernel
theorem dX5_write_18 : decode cX5_write 18 = .ok (.bipush 32, 2) := by decide +kernel
theorem dX5_write_20 : decode cX5_write 20 = .ok (.if_icmp .le 6, 3) := by decide +kernel
theorem dX5_write_23 : decode cX5_write 23 = .ok (.bipush (-104), 2) := by decide +kernel
theorem dX5_write_25 : decode cX5_write 25 = .ok (.ireturn, 1) := by decide +kernel
theorem dX5_write_26 : decode cX5_write 26 = .ok (.iconst 0, 1) := by decide +kernel
theorem dX5_write_27 : decode cX5_write 27 = .ok (.istore 4, 2) := by decide +kernel
theorem dX5_write_29 : decode cX5_write 29 = .ok (.iload 4, 2) := by decide +kernel
theorem dX5_write_31 : decode cX5_write 31 = .ok (.iload_n 3, 1) := by decide +kernel
theorem dX5_write_32 : decode cX5_write 32 = .ok (.if_icmp .ge 27, 3) := by decide +kernel
theorem dX5_write_35 : decode cX5_write 35 = .ok (.aload_n 0, 1) := by decide +kernel
theorem dX5_write_36 : decode cX5_write 36 = .ok (.getfield 11, 3) := by decide +kernel
theorem dX5_write_39 : decode cX5_write 39 = .ok (.aload_n 0, 1) := by decide +kernel
theorem dX5_write_40 : decode cX5_write 40 = .ok (.getfield 15, 3) := by decide +kernel
theorem dX5_write_43 : decode cX5_write 43 = .ok (.iload 4, 2) := by decide +kernel
theorem dX5_write_45 : decode cX5_write 45 = .ok (.iadd, 1) := by decide +kernel
theorem dX5_write_46 : decode cX5_write 46 = .ok (.lload_n 1, 1) := by decide +kernel
theorem dX5_write_47 : decode cX5_write 47 = .ok (.iload 4, 2) := by decide +kernel
theorem dX5_write_49 : decode cX5_write 49 = .ok (.invokestatic 23, 3) := by decide +kernel
theorem dX5_write_52 : decode cX5_write 52 = .ok (.iastore, 1) := by decide +kernel
theorem dX5_write_53 : decode cX5_write 53 = .ok (.iinc 4 1, 3) := by decide +kernel
theorem dX5_write_56 : decode cX5_write 56 = .ok (.goto (-27), 3) := by decide +kernel
theorem dX5_write_59 : decode cX5_write 59 = .ok (.aload_n 0, 1) := by decide +kernel
theorem dX5_write_60 : decode cX5_write 60 = .ok (.dup, 1) := by decide +kernel
theorem dX5_write_61 : decode cX5_write 61 = .ok (.getfield 15, 3) := by decide +kernel
theorem dX5_write_64 : decode cX5_write 64 = .ok (.iload_n 3, 1) := by decide +kernel
theorem dX5_write_65 : decode cX5_write 65 = .ok (.iadd, 1) := by decide +kernel
theorem dX5_write_66 : decode cX5_write 66 = .ok (.putfield 15, 3) := by decide +kernel
theorem dX5_write_69 : decode cX5_write 69 = .ok (.aload_n 0, 1) := by decide +kernel
theorem dX5_write_70 : decode cX5_write 70 = .ok (.getfield 15, 3) := by decide +kernel
theorem dX5_write_73 : decode cX5_write 73 = .ok (.ireturn, 1) := by decide +kernel
theorem dX5_lettersIn_0 : decode cX5_lettersIn 0 = .ok (.iconst 0, 1) := by decide +kernel
theorem dX5_lettersIn_1 : decode cX5_lettersIn 1 = .ok (.istore_n 2, 1) := by decide +kernel
theorem dX5_lettersIn_2 : decode cX5_lettersIn 2 = .ok (.iconst 0, 1) := by decide +kernel
theorem dX5_lettersIn_3 : decode cX5_lettersIn 3 = .ok (.istore_n 3, 1) := by decide +kernel
theorem dX5_lettersIn_4 : decode cX5_lettersIn 4 = .ok (.iload_n 3, 1) := by decide +kernel
theorem dX5_lettersIn_5 : decode cX5_lettersIn 5 = .ok (.bipush 8, 2) := by decide +kernel
theorem dX5_lettersIn_7 : decode cX5_lettersIn 7 = .ok (.if_icmp .ge 55, 3) := by decide +kernel
theorem dX5_lettersIn_10 : decode cX5_lettersIn 10 = .ok (.lload_n 0, 1) := by decide +kernel
theorem dX5_lettersIn_11 : decode cX5_lettersIn 11 = .ok (.iload_n 3, 1) := by decide +kernel
theorem dX5_lettersIn_12 : decode cX5_lettersIn 12 = .ok (.invokestatic 23, 3) := by decide +kernel
theorem dX5_lettersIn_15 : decode cX5_lettersIn 15 = .ok (.istore 4, 2) := by decide +kernel
theorem dX5_lettersIn_17 : decode cX5_lettersIn 17 = .ok (.iload_n 2, 1) := by decide +kernel
theorem dX5_lettersIn_18 : decode cX5_lettersIn 18 = .ok (.iload_n 3, 1) := by decide +kernel
theorem dX5_lettersIn_19 : decode cX5_lettersIn 19 = .ok (.if_icmp .ge 7, 3) := by decide +kernel
theorem dX5_lettersIn_22 : decode cX5_lettersIn 22 = .ok (.iconst 1, 1) := by decide +kernel
theorem dX5_lettersIn_23 : decode cX5_lettersIn 23 = .ok (.goto 4, 3) := by decide +kernel
theorem dX5_lettersIn_26 : decode cX5_lettersIn 26 = .ok (.iconst 0, 1) := by decide +kernel
theorem dX5_lettersIn_27 : decode cX5_lettersIn 27 = .ok (.istore 5, 2) := by decide +kernel
theorem dX5_lettersIn_29 : decode cX5_lettersIn 29 = .ok (.iload 4, 2) := by decide +kernel
theorem dX5_lettersIn_31 : decode cX5_lettersIn 31 = .ok (.bipush 126, 2) := by decide +kernel
theorem dX5_lettersIn_33 : decode cX5_lettersIn 33 = .ok (.if_icmp .gt 13, 3) := by decide +kernel
theorem dX5_lettersIn_36 : decode cX5_lettersIn 36 = .ok (.iload 4, 2) := by decide +kernel
theorem dX5_lettersIn_38 : decode cX5_lettersIn 38 = .ok (.ifCond .eq 10, 3) := by decide +kernel
theorem dX5_lettersIn_41 : decode cX5_lettersIn 41 = .ok (.iload 5, 2) := by decide +kernel
theorem dX5_lettersIn_43 : decode cX5_lettersIn 43 = .ok (.ifCond .eq 5, 3) := by decide +kernel
theorem dX5_lettersIn_46 : decode cX5_lettersIn 46 = .ok (.iconst (-1), 1) := by decide +kernel
theorem dX5_lettersIn_47 : decode cX5_lettersIn 47 = .ok (.ireturn, 1) := by decide +kernel
theorem dX5_lettersIn_48 : decode cX5_lettersIn 48 = .ok (.iload 4, 2) := by decide +kernel
theorem dX5_lettersIn_50 : decode cX5_lettersIn 50 = .ok (.ifCond .eq 6, 3) := by decide +kernel
theorem dX5_lettersIn_53 : decode cX5_lettersIn 53 = .ok (.iinc 2 1, 3) := by decide +kernel
theorem dX5_lettersIn_56 : decode cX5_lettersIn 56 = .ok (.iinc 3 1, 3) := by decide +kernel
theorem dX5_lettersIn_59 : decode cX5_lettersIn 59 = .ok (.goto (-55), 3) := by decide +kernel
theorem dX5_lettersIn_62 : decode cX5_lettersIn 62 = .ok (.iload_n 2, 1) := by decide +kernel
theorem dX5_lettersIn_63 : decode cX5_lettersIn 63 = .ok (.ireturn, 1) := by decide +kernel
theorem dX5_byteOf_0 : decode cX5_byteOf 0 = .ok (.lload_n 0, 1) := by decide +kernel
theorem dX5_byteOf_1 : decode cX5_byteOf 1 = .ok (.bipush 8, 2) := by decide +kernel
theorem dX5_byteOf_3 : decode cX5_byteOf 3 = .ok (.iload_n 2, 1) := by decide +kernel
theorem dX5_byteOf_4 : decode cX5_byteOf 4 = .ok (.imul, 1) := by decide +kernel
theorem dX5_byteOf_5 : decode cX5_byteOf 5 = .ok (.lushr, 1) := by decide +kernel
theorem dX5_byteOf_6 : decode cX5_byteOf 6 = .ok (.ldc2_w 27, 3) := by decide +kernel
theorem dX5_byteOf_9 : decode cX5_byteOf 9 = .ok (.land, 1) := by decide +kernel
theorem dX5_byteOf_10 : decode cX5_byteOf 10 = .ok (.l2i, 1) := by decide +kernel
theorem dX5_byteOf_11 : decode cX5_byteOf 11 = .ok (.ireturn, 1) := by decide +kernel
theorem dX6_init_0 : decode cX6_init 0 = .ok (.aload_n 0, 1) := by decide +kernel
theorem dX6_init_1 : decode cX6_init 1 = .ok (.invokespecial 3, 3) := by decide +kernel
theorem dX6_init_4 : decode cX6_init 4 = .ok (.aload_n 0, 1) := by decide +kernel
theorem dX6_init_5 : decode cX6_init 5 = .ok (.iconst 5, 1) := by decide +kernel
theorem dX6_init_6 : decode cX6_init 6 = .ok (.anewarray 11, 3) := by decide +kernel
theorem dX6_init_9 : decode cX6_init 9 = .ok (.putfield 13, 3) := by decide +kernel
theorem dX6_init_12 : decode cX6_init 12 = .ok (.aload_n 0, 1) := by decide +kernel
theorem dX6_init_13 : decode cX6_init 13 = .ok (.bipush 10, 2) := by decide +kernel
theorem dX6_init_15 : decode cX6_init 15 = .ok (.newarray .int, 2) := by decide +kernel
theorem dX6_init_17 : decode cX6_init 17 = .ok (.putfield 17, 3) := by decide +kernel
theorem dX6_init_20 : decode cX6_init 20 = .ok (.iconst 0, 1) := by decide +kernel
theorem dX6_init_21 : decode cX6_init 21 = .ok (.istore_n 1, 1) := by decide +kernel
theorem dX6_init_22 : decode cX6_init 22 = .ok (.iload_n 1, 1) := by decide +kernel
theorem dX6_init_23 : decode cX6_init 23 = .ok (.iconst 5, 1) := by decide +kernel
theorem dX6_init_24 : decode cX6_init 24 = .ok (.if_icmp .ge 22, 3) := by decide +kernel
theorem dX6_init_27 : decode cX6_init 27 = .ok (.aload_n 0, 1) := by decide +kernel
theorem dX6_init_28 : decode cX6_init 28 = .ok (.getfield 13, 3) := by decide +kernel
theorem dX6_init_31 : decode cX6_init 31 = .ok (.iload_n 1, 1) := by decide +kernel
theorem dX6_init_32 : decode cX6_init 32 = .ok (.new 11, 3) := by decide +kernel
theorem dX6_init_35 : decode cX6_init 35 = .ok (.dup, 1) := by decide +kernel
theorem dX6_init_36 : decode cX6_init 36 = .ok (.invokespecial 21, 3) := by decide +kernel
theorem dX6_init_39 : decode cX6_init 39 = .ok (.aastore, 1) := by decide +kernel
theorem dX6_init_40 : decode cX6_init 40 = .ok (.iinc 1 1, 3) := by decide +kernel
theorem dX6_init_43 : decode cX6_init 43 = .ok (.goto (-21), 3) := by decide +kernel
theorem dX6_init_46 : decode cX6_init 46 = .ok (.aload_n 0, 1) := by decide +kernel
theorem dX6_init_47 : decode cX6_init 47 = .ok (.getfield 17, 3) := by decide +kernel
theorem dX6_init_50 : decode cX6_init 50 = .ok (.iconst (-1), 1) := by decide +kernel
theorem dX6_init_51 : decode cX6_init 51 = .ok (.invokestatic 22, 3) := by decide +kernel
theorem dX6_init_54 : decode cX6_init 54 = .ok (.return_, 1) := by decide +kernel
theorem dX6_readFrom_0 : decode cX6_readFrom 0 = .ok (.aload_n 0, 1) := by decide +kernel
theorem dX6_readFrom_1 : decode cX6_readFrom 1 = .ok (.getfield 17, 3) := by decide +kernel
theorem dX6_readFrom_4 : decode cX6_readFrom 4 = .ok (.iconst (-1), 1) := by decide +kernel
theorem dX6_readFrom_5 : decode cX6_readFrom 5 = .ok (.invokestatic 22, 3) := by decide +kernel
theorem dX6_readFrom_8 : decode cX6_readFrom 8 = .ok (.aload_n 0, 1) := by decide +kernel
theorem dX6_readFrom_9 : decode cX6_readFrom 9 = .ok (.iconst 0, 1) := by decide +kernel
theorem dX6_readFrom_10 : decode cX6_readFrom 10 = .ok (.putfield 28, 3) := by decide +kernel
theorem dX6_readFrom_13 : decode cX6_readFrom 13 = .ok (.aload_n 0, 1) := by decide +kernel
theorem dX6_readFrom_14 : decode cX6_readFrom 14 = .ok (.invokevirtual 32, 3) := by decide +kernel
theorem dX6_readFrom_17 : decode cX6_readFrom 17 = .ok (.pop, 1) := by decide +kernel
theorem dX6_readFrom_18 : decode cX6_readFrom 18 = .ok (.iconst 0, 1) := by decide +kernel
theorem dX6_readFrom_19 : decode cX6_readFrom 19 = .ok (.istore_n 2, 1) := by decide +kernel
theorem dX6_readFrom_20 : decode cX6_readFrom 20 = .ok (.iload_n 2, 1) := by decide +kernel
theorem dX6_readFrom_21 : decode cX6_readFrom 21 = .ok (.aload_n 1, 1) := by decide +kernel
theorem dX6_readFrom_22 : decode cX6_readFrom 22 = .ok (.invokevirtual 36, 3) := by decide +kernel
theorem dX6_readFrom_25 : decode cX6_readFrom 25 = .ok (.if_icmp .ge 23, 3) := by decide +kernel
theorem dX6_readFrom_28 : decode cX6_readFrom 28 = .ok (.aload_n 0, 1) := by decide +kernel
theorem dX6_readFrom_29 : decode cX6_readFrom 29 = .ok (.aload_n 1, 1) := by decide +kernel
theorem dX6_readFrom_30 : decode cX6_readFrom 30 = .ok (.iload_n 2, 1) := by decide +kernel
theorem dX6_readFrom_31 : decode cX6_readFrom 31 = .ok (.invokevirtual 42, 3) := by decide +kernel
theorem dX6_readFrom_34 : decode cX6_readFrom 34 = .ok (.invokevirtual 46, 3) := by decide +kernel
theorem dX6_readFrom_37 : decode cX6_readFrom 37 = .ok (.ifCond .ne 5, 3) := by decide +kernel
theorem dX6_readFrom_40 : decode cX6_readFrom 40 = .ok (.iload_n 2, 1) := by decide +kernel
theorem dX6_readFrom_41 : decode cX6_readFrom 41 = .ok (.ireturn, 1) := by decide +kernel
theorem dX6_readFrom_42 : decode cX6_readFrom 42 = .ok (.iinc 2 1, 3) := by decide +kernel
theorem dX6_readFrom_45 : decode cX6_readFrom 45 = .ok (.goto (-25), 3) := by decide +kernel
theorem dX6_readFrom_48 : decode cX6_readFrom 48 = .ok (.aload_n 1, 1) := by decide +kernel
theorem dX6_readFrom_49 : decode cX6_readFrom 49 = .ok (.invokevirtual 36, 3) := by decide +kernel
theorem dX6_readFrom_52 : decode cX6_readFrom 52 = .ok (.ireturn, 1) := by decide +kernel
theorem dX6_isWhole_0 : decode cX6_isWhole 0 = .ok (.aload_n 0, 1) := by decide +kernel
theorem dX6_isWhole_1 : decode cX6_isWhole 1 = .ok (.aload_n 0, 1) := by decide +kernel
theorem dX6_isWhole_2 : decode cX6_isWhole 2 = .ok (.getfield 28, 3) := by decide +kernel
theorem dX6_isWhole_5 : decode cX6_isWhole 5 = .ok (.iconst 1, 1) := by decide +kernel
theorem dX6_isWhole_6 : decode cX6_isWhole 6 = .ok (.isub, 1) := by decide +kernel
theorem dX6_isWhole_7 : decode cX6_isWhole 7 = .ok (.invokevirtual 50, 3) := by decide +kernel
theorem dX6_isWhole_10 : decode cX6_isWhole 10 = .ok (.astore_n 1, 1) := by decide +kernel
theorem dX6_isWhole_11 : decode cX6_isWhole 11 = .ok (.aload_n 1, 1) := by decide +kernel
theorem dX6_isWhole_12 : decode cX6_isWhole 12 = .ok (.ifnull 14, 3) := by decide +kernel
theorem dX6_isWhole_15 : decode cX6_isWhole 15 = .ok (.aload_n 1, 1) := by decide +kernel
theorem dX6_isWhole_16 : decode cX6_isWhole 16 = .ok (.invokevirtual 54, 3) := by decide +kernel
theorem dX6_isWhole_19 : decode cX6_isWhole 19 = .ok (.ifCond .eq 7, 3) := by decide +kernel
theorem dX6_isWhole_22 : decode cX6_isWhole 22 = .ok (.iconst 1, 1) := by decide +kernel
theorem dX6_isWhole_23 : decode cX6_isWhole 23 = .ok (.goto 4, 3) := by decide +kernel
theorem dX6_isWhole_26 : decode cX6_isWhole 26 = .ok (.iconst 0, 1) := by decide +kernel
theorem dX6_isWhole_27 : decode cX6_isWhole 27 = .ok (.ireturn, 1) := by decide +kernel
theorem dX6_size_0 : decode cX6_size 0 = .ok (.aload_n 0, 1) := by decide +kernel
theorem dX6_size_1 : decode cX6_size 1 = .ok (.getfield 28, 3) := by decide +kernel
theorem dX6_size_4 : decode cX6_size 4 = .ok (.ireturn, 1) := by decide +kernel
theorem dX6_find_0 : decode cX6_find 0 = .ok (.iload_n 1, 1) := by decide +kernel
theorem dX6_find_1 : decode cX6_find 1 = .ok (.ifCond .lt 25, 3) := by decide +kernel
theorem dX6_find_4 : decode cX6_find 4 = .ok (.iload_n 1, 1) := by decide +kernel
theorem dX6_find_5 : decode cX6_find 5 = .ok (.aload_n 0, 1) := by decide +kernel
theorem dX6_find_6 : decode cX6_find 6 = .ok (.getfield 28, 3) := by decide +kernel
theorem dX6_find_9 : decode cX6_find 9 = .ok (.if_icmp .ge 17, 3) := by decide +kernel
theorem dX6_find_12 : decode cX6_find 12 = .ok (.iload_n 1, 1) := by decide +kernel
theorem dX6_find_13 : decode cX6_find 13 = .ok (.iconst 5, 1) := by decide +kernel
theorem dX6_find_14 : decode cX6_find 14 = .ok (.if_icmp .ge 12, 3) := by decide +kernel
theorem dX6_find_17 : decode cX6_find 17 = .ok (.aload_n 0, 1) := by decide +kernel
theorem dX6_find_18 : decode cX6_find 18 = .ok (.getfield 13, 3) := by decide +kernel
theorem dX6_find_21 : decode cX6_find 21 = .ok (.iload_n 1, 1) := by decide +kernel
theorem dX6_find_22 : decode cX6_find 22 = .ok (.aaload, 1) := by decide +kernel
theorem dX6_find_23 : decode cX6_find 23 = .ok (.goto 4, 3) := by decide +kernel
theorem dX6_find_26 : decode cX6_find 26 = .ok (.aconst_null, 1) := by decide +kernel
theorem dX6_find_27 : decode cX6_find 27 = .ok (.areturn, 1) := by decide +kernel
theorem dX6_birthOf_0 : decode cX6_birthOf 0 = .ok (.iload_n 1, 1) := by decide +kernel
theorem dX6_birthOf_1 : decode cX6_birthOf 1 = .ok (.invokestatic 57, 3) := by decide +kernel
theorem dX6_birthOf_4 : decode cX6_birthOf 4 = .ok (.ifCond .eq 12, 3) := by decide +kernel
theorem dX6_birthOf_7 : decode cX6_birthOf 7 = .ok (.aload_n 0, 1) := by decide +kernel
theorem dX6_birthOf_8 : decode cX6_birthOf 8 = .ok (.getfield 17, 3) := by decide +kernel
theorem dX6_birthOf_11 : decode cX6_birthOf 11 = .ok (.iload_n 1, 1) := by decide +kernel
theorem dX6_birthOf_12 : decode cX6_birthOf 12 = .ok (.iaload, 1) := by decide +kernel
theorem dX6_birthOf_13 : decode cX6_birthOf 13 = .ok (.goto 4, 3) := by decide +kernel
theorem dX6_birthOf_16 : decode cX6_birthOf 16 = .ok (.iconst (-1), 1) := by decide +kernel
theorem dX6_birthOf_17 : decode cX6_birthOf 17 = .ok (.ireturn, 1) := by decide +kernel
theorem dX6_tenthsOf_0 : decode cX6_tenthsOf 0 = .ok (.aload_n 0, 1) := by decide +kernel
theorem dX6_tenthsOf_1 : decode cX6_tenthsOf 1 = .ok (.aload_n 0, 1) := by decide +kernel
theorem dX6_tenthsOf_2 : decode cX6_tenthsOf 2 = .ok (.iload_n 1, 1) := by decide +kernel
theorem dX6_tenthsOf_3 : decode cX6_tenthsOf 3 = .ok (.invokevirtual 60, 3) := by decide +kernel
theorem dX6_tenthsOf_6 : decode cX6_tenthsOf 6 = .ok (.invokevirtual 50, 3) := by decide +kernel
theorem dX6_tenthsOf_9 : decode cX6_tenthsOf 9 = .ok (.astore_n 2, 1) := by decide +kernel
theorem dX6_tenthsOf_10 : decode cX6_tenthsOf 10 = .ok (.aload_n 2, 1) := by decide +kernel
theorem dX6_tenthsOf_11 : decode cX6_tenthsOf 11 = .ok (.ifnonnull 8, 3) := by decide +kernel
theorem dX6_tenthsOf_14 : decode cX6_tenthsOf 14 = .ok (.bipush 10, 2) := by decide +kernel
theorem dX6_tenthsOf_16 : decode cX6_tenthsOf 16 = .ok (.goto 7, 3) := by decide +kernel
theorem dX6_tenthsOf_19 : decode cX6_tenthsOf 19 = .ok (.aload_n 2, 1) := by decide +kernel
theorem dX6_tenthsOf_20 : decode cX6_tenthsOf 20 = .ok (.invokevirtual 62, 3) := by decide +kernel
theorem dX6_tenthsOf_23 : decode cX6_tenthsOf 23 = .ok (.ireturn, 1) := by decide +kernel
theorem dX6_delay_0 : decode cX6_delay 0 = .ok (.aload_n 0, 1) := by decide +kernel
theorem dX6_delay_1 : decode cX6_delay 1 = .ok (.iload_n 1, 1) := by decide +kernel
theorem dX6_delay_2 : decode cX6_delay 2 = .ok (.invokevirtual 60, 3) := by decide +kernel
theorem dX6_delay_5 : decode cX6_delay 5 = .ok (.istore_n 3, 1) := by decide +kernel
theorem dX6_delay_6 : decode cX6_delay 6 = .ok (.aload_n 0, 1) := by decide +kernel
theorem dX6_delay_7 : decode cX6_delay 7 = .ok (.iload_n 3, 1) := by decide +kernel
theorem dX6_delay_8 : decode cX6_delay 8 = .ok (.invokevirtual 50, 3) := by decide +kernel
theorem dX6_delay_11 : decode cX6_delay 11 = .ok (.astore 4, 2) := by decide +kernel
theorem dX6_delay_13 : decode cX6_delay 13 = .ok (.aload 4, 2) := by decide +kernel
theorem dX6_delay_15 : decode cX6_delay 15 = .ok (.ifnull 17, 3) := by decide +kernel
theorem dX6_delay_18 : decode cX6_delay 18 = .ok (.aload_n 0, 1) := by decide +kernel
theorem dX6_delay_19 : decode cX6_delay 19 = .ok (.iload_n 2, 1) := by decide +kernel
theorem dX6_delay_20 : decode cX6_delay 20 = .ok (.invokevirtual 60, 3) := by decide +kernel
theorem dX6_delay_23 : decode cX6_delay 23 = .ok (.iload_n 3, 1) := by decide +kernel
theorem dX6_delay_24 : decode cX6_delay 24 = .ok (.if_icmp .ne 8, 3) := by decide +kernel
theorem dX6_delay_27 : decode cX6_delay 27 = .ok (.iload_n 1, 1) := by decide +kernel
theorem dX6_delay_28 : decode cX6_delay 28 = .ok (.iload_n 2, 1) := by decide +kernel
theorem dX6_delay_29 : decode cX6_delay 29 = .ok (.if_icmp .ne 5, 3) := by decide +kernel
theorem dX6_delay_32 : decode cX6_delay 32 = .ok (.iconst (-1), 1) := by decide +kernel
theorem dX6_delay_33 : decode cX6_delay 33 = .ok (.ireturn, 1) := by decide +kernel
theorem dX6_delay_34 : decode cX6_delay 34 = .ok (.aload 4, 2) := by decide +kernel
theorem dX6_delay_36 : decode cX6_delay 36 = .ok (.aload 4, 2) := by decide +kernel
theorem dX6_delay_38 : decode cX6_delay 38 = .ok (.iload_n 1, 1) := by decide +kernel
theorem dX6_delay_39 : decode cX6_delay 39 = .ok (.invokevirtual 65, 3) := by decide +kernel
theorem dX6_delay_42 : decode cX6_delay 42 = .ok (.aload 4, 2) := by decide +kernel
theorem dX6_delay_44 : decode cX6_delay 44 = .ok (.iload_n 2, 1) := by decide +kernel
theorem dX6_delay_45 : decode cX6_delay 45 = .ok (.invokevirtual 65, 3) := by decide +kernel
theorem dX6_delay_48 : decode cX6_delay 48 = .ok (.invokevirtual 68, 3) := by decide +kernel
theorem dX6_delay_51 : decode cX6_delay 51 = .ok (.ireturn, 1) := by decide +kernel
theorem dX6_beginBirth_0 : decode cX6_beginBirth 0 = .ok (.aload_n 0, 1) := by decide +kernel
theorem dX6_beginBirth_1 : decode cX6_beginBirth 1 = .ok (.getfield 28, 3) := by decide +kernel
theorem dX6_beginBirth_4 : decode cX6_beginBirth 4 = .ok (.iconst 5, 1) := by decide +kernel
theorem dX6_beginBirth_5 : decode cX6_beginBirth 5 = .ok (.if_icmp .lt 5, 3) := by decide +kernel
theorem dX6_beginBirth_8 : decode cX6_beginBirth 8 = .ok (.iconst 0, 1) := by decide +kernel
theorem dX6_beginBirth_9 : decode cX6_beginBirth 9 = .ok (.ireturn, 1) := by decide +kernel
theorem dX6_beginBirth_10 : decode cX6_beginBirth 10 = .ok (.aload_n 0, 1) := by decide +kernel
theorem dX6_beginBirth_11 : decode cX6_beginBirth 11 = .ok (.getfield 13, 3) := by decide +kernel
theorem dX6_beginBirth_14 : decode cX6_beginBirth 14 = .ok (.aload_n 0, 1) := by decide +kernel
theorem dX6_beginBirth_15 : decode cX6_beginBirth 15 = .ok (.getfield 28, 3) := by decide +kernel
theorem dX6_beginBirth_18 : decode cX6_beginBirth 18 = .ok (.aaload, 1) := by decide +kernel
theorem dX6_beginBirth_19 : decode cX6_beginBirth 19 = .ok (.invokevirtual 72, 3) := by decide +kernel
theorem dX6_beginBirth_22 : decode cX6_beginBirth 22 = .ok (.aload_n 0, 1) := by decide +kernel
theorem dX6_beginBirth_23 : decode cX6_beginBirth 23 = .ok (.dup, 1) := by decide +kernel
theorem dX6_beginBirth_24 : decode cX6_beginBirth 24 = .ok (.getfield 28, 3) := by decide +kernel
theorem dX6_beginBirth_27 : decode cX6_beginBirth 27 = .ok (.iconst 1, 1) := by decide +kernel
theorem dX6_beginBirth_28 : decode cX6_beginBirth 28 = .ok (.iadd, 1) := by decide +kernel
theorem dX6_beginBirth_29 : decode cX6_beginBirth 29 = .ok (.putfield 28, 3) := by decide +kernel
theorem dX6_beginBirth_32 : decode cX6_beginBirth 32 = .ok (.iconst 1, 1) := by decide +kernel
theorem dX6_beginBirth_33 : decode cX6_beginBirth 33 = .ok (.ireturn, 1) := by decide +kernel
theorem dX6_take_0 : decode cX6_take 0 = .ok (.aload_n 0, 1) := by decide +kernel
theorem dX6_take_1 : decode cX6_take 1 = .ok (.aload_n 0, 1) := by decide +kernel
theorem dX6_take_2 : decode cX6_take 2 = .ok (.getfield 28, 3) := by decide +kernel
theorem dX6_take_5 : decode cX6_take 5 = .ok (.iconst 1, 1) := by decide +kernel
theorem dX6_take_6 : decode cX6_take 6 = .ok (.isub, 1) := by decide +kernel
theorem dX6_take_7 : decode cX6_take 7 = .ok (.invokevirtual 50, 3) := by decide +kernel
theorem dX6_take_10 : decode cX6_take 10 = .ok (.astore_n 2, 1) := by decide +kernel
theorem dX6_take_11 : decode cX6_take 11 = .ok (.aload_n 2, 1) := by decide +kernel
theorem dX6_take_12 : decode cX6_take 12 = .ok (.ifnonnull 5, 3) := by decide +kernel
theorem dX6_take_15 : decode cX6_take 15 = .ok (.iconst 0, 1) := by decide +kernel
theorem dX6_take_16 : decode cX6_take 16 = .ok (.ireturn, 1) := by decide +kernel
theorem dX6_take_17 : decode cX6_take 17 = .ok (.iload_n 1, 1) := by decide +kernel
theorem dX6_take_18 : decode cX6_take 18 = .ok (.lookupswitch 80 #[(43, 74), (44, 42), (63, 68), (111, 62)], 42) := by decide +kernel
theorem dX6_take_60 : decode cX6_take 60 = .ok (.aload_n 2, 1) := by decide +kernel
theorem dX6_take_61 : decode cX6_take 61 = .ok (.invokevirtual 54, 3) := by decide +kernel
theorem dX6_take_64 : decode cX6_take 64 = .ok (.ifCond .eq 14, 3) := by decide +kernel
theorem dX6_take_67 : decode cX6_take 67 = .ok (.aload_n 0, 1) := by decide +kernel
theorem dX6_take_68 : decode cX6_take 68 = .ok (.invokevirtual 32, 3) := by decide +kernel
theorem dX6_take_71 : decode cX6_take 71 = .ok (.ifCond .eq 7, 3) := by decide +kernel
theorem dX6_take_74 : decode cX6_take 74 = .ok (.iconst 1, 1) := by decide +kernel
theorem dX6_take_75 : decode cX6_take 75 = .ok (.goto 4, 3) := by decide +kernel
theorem dX6_take_78 : decode cX6_take 78 = .ok (.iconst 0, 1) := by decide +kernel
theorem dX6_take_79 : decode cX6_take 79 = .ok (.ireturn, 1) := by decide +kernel
theorem dX6_take_80 : decode cX6_take 80 = .ok (.aload_n 2, 1) := by decide +kernel
theorem dX6_take_81 : decode cX6_take 81 = .ok (.iconst 1, 1) := by decide +kernel
theorem dX6_take_82 : decode cX6_take 82 = .ok (.invokevirtual 75, 3) := by decide +kernel
theorem dX6_take_85 : decode cX6_take 85 = .ok (.ireturn, 1) := by decide +kernel
theorem dX6_take_86 : decode cX6_take 86 = .ok (.aload_n 2, 1) := by decide +kernel
theorem dX6_take_87 : decode cX6_take 87 = .ok (.iconst 2, 1) := by decide +kernel
theorem dX6_take_88 : decode cX6_take 88 = .ok (.invokevirtual 75, 3) := by decide +kernel
theorem dX6_take_91 : decode cX6_take 91 = .ok (.ireturn, 1) := by decide +kernel
theorem dX6_take_92 : decode cX6_take 92 = .ok (.aload_n 2, 1) := by decide +kernel
theorem dX6_take_93 : decode cX6_take 93 = .ok (.iconst 3, 1) := by decide +kernel
theorem dX6_take_94 : decode cX6_take 94 = .ok (.invokevirtual 75, 3) := by decide +kernel
theorem dX6_take_97 : decode cX6_take 97 = .ok (.ireturn, 1) := by decide +kernel
theorem dX6_take_98 : decode cX6_take 98 = .ok (.aload_n 0, 1) := by decide +kernel
theorem dX6_take_99 : decode cX6_take 99 = .ok (.aload_n 2, 1) := by decide +kernel
theorem dX6_take_100 : decode cX6_take 100 = .ok (.iload_n 1, 1) := by decide +kernel
theorem dX6_take_101 : decode cX6_take 101 = .ok (.bipush 48, 2) := by decide +kernel
theorem dX6_take_103 : decode cX6_take 103 = .ok (.isub, 1) := by decide +kernel
theorem dX6_take_104 : decode cX6_take 104 = .ok (.invokevirtual 78, 3) := by decide +kernel
theorem dX6_take_107 : decode cX6_take 107 = .ok (.ireturn, 1) := by decide +kernel
theorem dX6_takeDigit_0 : decode cX6_takeDigit 0 = .ok (.iload_n 2, 1) := by decide +kernel
theorem dX6_takeDigit_1 : decode cX6_takeDigit 1 = .ok (.invokestatic 57, 3) := by decide +kernel
theorem dX6_takeDigit_4 : decode cX6_takeDigit 4 = .ok (.ifCond .ne 5, 3) := by decide +kernel
theorem dX6_takeDigit_7 : decode cX6_takeDigit 7 = .ok (.iconst 0, 1) := by decide +kernel
theorem dX6_takeDigit_8 : decode cX6_takeDigit 8 = .ok (.ireturn, 1) := by decide +kernel
theorem dX6_takeDigit_9 : decode cX6_takeDigit 9 = .ok (.aload_n 1, 1) := by decide +kernel
theorem dX6_takeDigit_10 : decode cX6_takeDigit 10 = .ok (.invokevirtual 82, 3) := by decide +kernel
theorem dX6_takeDigit_13 : decode cX6_takeDigit 13 = .ok (.ifCond .eq 9, 3) := by decide +kernel
theorem dX6_takeDigit_16 : decode cX6_takeDigit 16 = .ok (.aload_n 1, 1) := by decide +kernel
theorem dX6_takeDigit_17 : decode cX6_takeDigit 17 = .ok (.iload_n 2, 1) := by decide +kernel
theorem dX6_takeDigit_18 : decode cX6_takeDigit 18 = .ok (.invokevirtual 85, 3) := by decide +kernel
theorem dX6_takeDigit_21 : decode cX6_takeDigit 21 = .ok (.ireturn, 1) := by decide +kernel
theorem dX6_takeDigit_22 : decode cX6_takeDigit 22 = .ok (.aload_n 0, 1) := by decide +kernel
theorem dX6_takeDigit_23 : decode cX6_takeDigit 23 = .ok (.getfield 17, 3) := by decide +kernel
theorem dX6_takeDigit_26 : decode cX6_takeDigit 26 = .ok (.iload_n 2, 1) := by decide +kernel
theorem dX6_takeDigit_27 : decode cX6_takeDigit 27 = .ok (.iaload, 1) := by decide +kernel
theorem dX6_takeDigit_28 : decode cX6_takeDigit 28 = .ok (.iconst (-1), 1) := by decide +kernel
theorem dX6_takeDigit_29 : decode cX6_takeDigit 29 = .ok (.if_icmp .ne 11, 3) := by decide +kernel
theorem dX6_takeDigit_32 : decode cX6_takeDigit 32 = .ok (.aload_n 1, 1) := by decide +kernel
theorem dX6_takeDigit_33 : decode cX6_takeDigit 33 = .ok (.iload_n 2, 1) := by decide +kernel
theorem dX6_takeDigit_34 : decode cX6_takeDigit 34 = .ok (.invokevirtual 88, 3) := by decide +kernel
theorem dX6_takeDigit_37 : decode cX6_takeDigit 37 = .ok (.ifCond .ne 5, 3) := by decide +kernel
theorem dX6_takeDigit_40 : decode cX6_takeDigit 40 = .ok (.iconst 0, 1) := by decide +kernel
theorem dX6_takeDigit_41 : decode cX6_takeDigit 41 = .ok (.ireturn, 1) := by decide +kernel
theorem dX6_takeDigit_42 : decode cX6_takeDigit 42 = .ok (.aload_n 0, 1) := by decide +kernel
theorem dX6_takeDigit_43 : decode cX6_takeDigit 43 = .ok (.getfield 17, 3) := by decide +kernel
theorem dX6_takeDigit_46 : decode cX6_takeDigit 46 = .ok (.iload_n 2, 1) := by decide +kernel
theorem dX6_takeDigit_47 : decode cX6_takeDigit 47 = .ok (.aload_n 0, 1) := by decide +kernel
theorem dX6_takeDigit_48 : decode cX6_takeDigit 48 = .ok (.getfield 28, 3) := by decide +kernel
theorem dX6_takeDigit_51 : decode cX6_takeDigit 51 = .ok (.iconst 1, 1) := by decide +kernel
theorem dX6_takeDigit_52 : decode cX6_takeDigit 52 = .ok (.isub, 1) := by decide +kernel
theorem dX6_takeDigit_53 : decode cX6_takeDigit 53 = .ok (.iastore, 1) := by decide +kernel
theorem dX6_takeDigit_54 : decode cX6_takeDigit 54 = .ok (.iconst 1, 1) := by decide +kernel
theorem dX6_takeDigit_55 : decode cX6_takeDigit 55 = .ok (.ireturn, 1) := by decide +kernel
theorem dX7_init_0 : decode cX7_init 0 = .ok (.aload_n 0, 1) := by decide +kernel
theorem dX7_init_1 : decode cX7_init 1 = .ok (.invokespecial 1, 3) := by decide +kernel
theorem dX7_init_4 : decode cX7_init 4 = .ok (.aload_n 0, 1) := by decide +kernel
theorem dX7_init_5 : decode cX7_init 5 = .ok (.bipush 16, 2) := by decide +kernel
theorem dX7_init_7 : decode cX7_init 7 = .ok (.newarray .int, 2) := by decide +kernel
theorem dX7_init_9 : decode cX7_init 9 = .ok (.putfield 7, 3) := by decide +kernel
theorem dX7_init_12 : decode cX7_init 12 = .ok (.return_, 1) := by decide +kernel
theorem dX7_most_0 : decode cX7_most 0 = .ok (.aload_n 0, 1) := by decide +kernel
theorem dX7_most_1 : decode cX7_most 1 = .ok (.getfield 13, 3) := by decide +kernel
theorem dX7_most_4 : decode cX7_most 4 = .ok (.ireturn, 1) := by decide +kernel
theorem dX7_firstSet_0 : decode cX7_firstSet 0 = .ok (.aload_n 0, 1) := by decide +kernel
theorem dX7_firstSet_1 : decode cX7_firstSet 1 = .ok (.getfield 17, 3) := by decide +kernel
theorem dX7_firstSet_4 : decode cX7_firstSet 4 = .ok (.ireturn, 1) := by decide +kernel
theorem dX7_search_0 : decode cX7_search 0 = .ok (.iconst 1, 1) := by decide +kernel
theorem dX7_search_1 : decode cX7_search 1 = .ok (.iload_n 1, 1) := by decide +kernel
theorem dX7_search_2 : decode cX7_search 2 = .ok (.ishl, 1) := by decide +kernel
theorem dX7_search_3 : decode cX7_search 3 = .ok (.aload_n 0, 1) := by decide +kernel
theorem dX7_search_4 : decode cX7_search 4 = .ok (.getfield 7, 3) := by decide +kernel
theorem dX7_search_7 : decode cX7_search 7 = .ok (.arraylength, 1) := by decide +kernel
theorem dX7_search_8 : decode cX7_search 8 = .ok (.invokestatic 20, 3) := by decide +kernel
theorem dX7_search_11 : decode cX7_search 11 = .ok (.istore_n 3, 1) := by decide +kernel
theorem dX7_search_12 : decode cX7_search 12 = .ok (.iconst 0, 1) := by decide +kernel
theorem dX7_search_13 : decode cX7_search 13 = .ok (.istore 4, 2) := by decide +kernel
theorem dX7_search_15 : decode cX7_search 15 = .ok (.iload 4, 2) := by decide +kernel
theorem dX7_search_17 : decode cX7_search 17 = .ok (.iload_n 3, 1) := by decide +kernel
theorem dX7_search_18 : decode cX7_search 18 = .ok (.if_icmp .ge 23, 3) := by decide +kernel
theorem dX7_search_21 : decode cX7_search 21 = .ok (.aload_n 0, 1) := by decide +kernel
theorem dX7_search_22 : decode cX7_search 22 = .ok (.getfield 7, 3) := by decide +kernel
theorem dX7_search_25 : decode cX7_search 25 = .ok (.iload 4, 2) := by decide +kernel
theorem dX7_search_27 : decode cX7_search 27 = .ok (.iload 4, 2) := by decide +kernel
theorem dX7_search_29 : decode cX7_search 29 = .ok (.iload_n 3, 1) := by decide +kernel
theorem dX7_search_30 : decode cX7_search 30 = .ok (.iload_n 2, 1) := by decide +kernel
theorem dX7_search_31 : decode cX7_search 31 = .ok (.invokestatic 26, 3) := by decide +kernel
theorem dX7_search_34 : decode cX7_search 34 = .ok (.iastore, 1) := by decide +kernel
theorem dX7_search_35 : decode cX7_search 35 = .ok (.iinc 4 1, 3) := by decide +kernel
theorem dX7_search_38 : decode cX7_search 38 = .ok (.goto (-23), 3) := by decide +kernel
theorem dX7_search_41 : decode cX7_search 41 = .ok (.aload_n 0, 1) := by decide +kernel
theorem dX7_search_42 : decode cX7_search 42 = .ok (.iconst 0, 1) := by decide +kernel
theorem dX7_search_43 : decode cX7_search 43 = .ok (.putfield 13, 3) := by decide +kernel
theorem dX7_search_46 : decode cX7_search 46 = .ok (.aload_n 0, 1) := by decide +kernel
theorem dX7_search_47 : decode cX7_search 47 = .ok (.iconst 0, 1) := by decide +kernel
theorem dX7_search_48 : decode cX7_search 48 = .ok (.putfield 17, 3) := by decide +kernel
theorem dX7_search_51 : decode cX7_search 51 = .ok (.aload_n 0, 1) := by decide +kernel
theorem dX7_search_52 : decode cX7_search 52 = .ok (.iload_n 3, 1) := by decide +kernel
theorem dX7_search_53 : decode cX7_search 53 = .ok (.iconst 1, 1) := by decide +kernel
theorem dX7_search_54 : decode cX7_search 54 = .ok (.isub, 1) := by decide +kernel
theorem dX7_search_55 : decode cX7_search 55 = .ok (.iconst 1, 1) := by decide +kernel
theorem dX7_search_56 : decode cX7_search 56 = .ok (.iload_n 3, 1) := by decide +kernel
theorem dX7_search_57 : decode cX7_search 57 = .ok (.ishl, 1) := by decide +kernel
theorem dX7_search_58 : decode cX7_search 58 = .ok (.iconst 1, 1) := by decide +kernel
theorem dX7_search_59 : decode cX7_search 59 = .ok (.isub, 1) := by decide +kernel
theorem dX7_search_60 : decode cX7_search 60 = .ok (.iconst 0, 1) := by decide +kernel
theorem dX7_search_61 : decode cX7_search 61 = .ok (.iconst 0, 1) := by decide +kernel
theorem dX7_search_62 : decode cX7_search 62 = .ok (.invokevirtual 30, 3) := by decide +kernel
theorem dX7_search_65 : decode cX7_search 65 = .ok (.return_, 1) := by decide +kernel
theorem dX7_rowsLike_0 : decode cX7_rowsLike 0 = .ok (.iconst 0, 1) := by decide +kernel
theorem dX7_rowsLike_1 : decode cX7_rowsLike 1 = .ok (.istore_n 3, 1) := by decide +kernel
theorem dX7_rowsLike_2 : decode cX7_rowsLike 2 = .ok (.iconst 0, 1) := by decide +kernel
theorem dX7_rowsLike_3 : decode cX7_rowsLike 3 = .ok (.istore 4, 2) := by decide +kernel
theorem dX7_rowsLike_5 : decode cX7_rowsLike 5 = .ok (.iload 4, 2) := by decide +kernel
theorem dX7_rowsLike_7 : decode cX7_rowsLike 7 = .ok (.iload_n 1, 1) := by decide +kernel
theorem dX7_rowsLike_8 : decode cX7_rowsLike 8 = .ok (.if_icmp .ge 50, 3) := by decide +kernel
theorem dX7_rowsLike_11 : decode cX7_rowsLike 11 = .ok (.iload_n 0, 1) := by decide +kernel
theorem dX7_rowsLike_12 : decode cX7_rowsLike 12 = .ok (.iload 4, 2) := by decide +kernel
theorem dX7_rowsLike_14 : decode cX7_rowsLike 14 = .ok (.iconst (-1), 1) := by decide +kernel
theorem dX7_rowsLike_15 : decode cX7_rowsLike 15 = .ok (.ixor, 1) := by decide +kernel
theorem dX7_rowsLike_16 : decode cX7_rowsLike 16 = .ok (.iand, 1) := by decide +kernel
theorem dX7_rowsLike_17 : decode cX7_rowsLike 17 = .ok (.invokestatic 34, 3) := by decide +kernel
theorem dX7_rowsLike_20 : decode cX7_rowsLike 20 = .ok (.istore 5, 2) := by decide +kernel
theorem dX7_rowsLike_22 : decode cX7_rowsLike 22 = .ok (.iload 4, 2) := by decide +kernel
theorem dX7_rowsLike_24 : decode cX7_rowsLike 24 = .ok (.iload_n 0, 1) := by decide +kernel
theorem dX7_rowsLike_25 : decode cX7_rowsLike 25 = .ok (.iconst (-1), 1) := by decide +kernel
theorem dX7_rowsLike_26 : decode cX7_rowsLike 26 = .ok (.ixor, 1) := by decide +kernel
theorem dX7_rowsLike_27 : decode cX7_rowsLike 27 = .ok (.iand, 1) := by decide +kernel
theorem dX7_rowsLike_28 : decode cX7_rowsLike 28 = .ok (.invokestatic 34, 3) := by decide +kernel
theorem dX7_rowsLike_31 : decode cX7_rowsLike 31 = .ok (.istore 6, 2) := by decide +kernel
theorem dX7_rowsLike_33 : decode cX7_rowsLike 33 = .ok (.iload 5, 2) := by decide +kernel
theorem dX7_rowsLike_35 : decode cX7_rowsLike 35 = .ok (.iload_n 2, 1) := by decide +kernel
theorem dX7_rowsLike_36 : decode cX7_rowsLike 36 = .ok (.if_icmp .gt 16, 3) := by decide +kernel
theorem dX7_rowsLike_39 : decode cX7_rowsLike 39 = .ok (.iload 6, 2) := by decide +kernel
theorem dX7_rowsLike_41 : decode cX7_rowsLike 41 = .ok (.iload_n 2, 1) := by decide +kernel
theorem dX7_rowsLike_42 : decode cX7_rowsLike 42 = .ok (.if_icmp .gt 10, 3) := by decide +kernel
theorem dX7_rowsLike_45 : decode cX7_rowsLike 45 = .ok (.iload_n 3, 1) := by decide +kernel
theorem dX7_rowsLike_46 : decode cX7_rowsLike 46 = .ok (.iconst 1, 1) := by decide +kernel
theorem dX7_rowsLike_47 : decode cX7_rowsLike 47 = .ok (.iload 4, 2) := by decide +kernel
theorem dX7_rowsLike_49 : decode cX7_rowsLike 49 = .ok (.ishl, 1) := by decide +kernel
theorem dX7_rowsLike_50 : decode cX7_rowsLike 50 = .ok (.ior, 1) := by decide +kernel
theorem dX7_rowsLike_51 : decode cX7_rowsLike 51 = .ok (.istore_n 3, 1) := by decide +kernel
theorem dX7_rowsLike_52 : decode cX7_rowsLike 52 = .ok (.iinc 4 1, 3) := by decide +kernel
theorem dX7_rowsLike_55 : decode cX7_rowsLike 55 = .ok (.goto (-50), 3) := by decide +kernel
theorem dX7_rowsLike_58 : decode cX7_rowsLike 58 = .ok (.iload_n 3, 1) := by decide +kernel
theorem dX7_rowsLike_59 : decode cX7_rowsLike 59 = .ok (.ireturn, 1) := by decide +kernel
theorem dX7_choose_0 : decode cX7_choose 0 = .ok (.iload 4, 2) := by decide +kernel
theorem dX7_choose_2 : decode cX7_choose 2 = .ok (.iload_n 2, 1) := by decide +kernel
theorem dX7_choose_3 : decode cX7_choose 3 = .ok (.invokestatic 34, 3) := by decide +kernel
theorem dX7_choose_6 : decode cX7_choose 6 = .ok (.iadd, 1) := by decide +kernel
theorem dX7_choose_7 : decode cX7_choose 7 = .ok (.aload_n 0, 1) := by decide +kernel
theorem dX7_choose_8 : decode cX7_choose 8 = .ok (.getfield 13, 3) := by decide +kernel
theorem dX7_choose_11 : decode cX7_choose 11 = .ok (.if_icmp .gt 4, 3) := by decide +kernel
theorem dX7_choose_14 : decode cX7_choose 14 = .ok (.return_, 1) := by decide +kernel
theorem dX7_choose_15 : decode cX7_choose 15 = .ok (.iload_n 1, 1) := by decide +kernel
theorem dX7_choose_16 : decode cX7_choose 16 = .ok (.ifCond .lt 12, 3) := by decide +kernel
theorem dX7_choose_19 : decode cX7_choose 19 = .ok (.iload_n 1, 1) := by decide +kernel
theorem dX7_choose_20 : decode cX7_choose 20 = .ok (.aload_n 0, 1) := by decide +kernel
theorem dX7_choose_21 : decode cX7_choose 21 = .ok (.getfield 7, 3) := by decide +kernel
theorem dX7_choose_24 : decode cX7_choose 24 = .ok (.arraylength, 1) := by decide +kernel
theorem dX7_choose_25 : decode cX7_choose 25 = .ok (.if_icmp .lt 15, 3) := by decide +kernel
theorem dX7_choose_28 : decode cX7_choose 28 = .ok (.aload_n 0, 1) := by decide +kernel
theorem dX7_choose_29 : decode cX7_choose 29 = .ok (.iload 4, 2) := by decide +kernel
theorem dX7_choose_31 : decode cX7_choose 31 = .ok (.putfield 13, 3) := by decide +kernel
theorem dX7_choose_34 : decode cX7_choose 34 = .ok (.aload_n 0, 1) := by decide +kernel
theorem dX7_choose_35 : decode cX7_choose 35 = .ok (.iload_n 3, 1) := by decide +kernel
theorem dX7_choose_36 : decode cX7_choose 36 = .ok (.putfield 17, 3) := by decide +kernel
theorem dX7_choose_39 : decode cX7_choose 39 = .ok (.return_, 1) := by decide +kernel
theorem dX7_choose_40 : decode cX7_choose 40 = .ok (.aload_n 0, 1) := by decide +kernel
theorem dX7_choose_41 : decode cX7_choose 41 = .ok (.iload_n 1, 1) := by decide +kernel
theorem dX7_choose_42 : decode cX7_choose 42 = .ok (.iconst 1, 1) := by decide +kernel
theorem dX7_choose_43 : decode cX7_choose 43 = .ok (.isub, 1) := by decide +kernel
theorem dX7_choose_44 : decode cX7_choose 44 = .ok (.iload_n 2, 1) := by decide +kernel
theorem dX7_choose_45 : decode cX7_choose 45 = .ok (.iconst 1, 1) := by decide +kernel
theorem dX7_choose_46 : decode cX7_choose 46 = .ok (.iload_n 1, 1) := by decide +kernel
theorem dX7_choose_47 : decode cX7_choose 47 = .ok (.ishl, 1) := by decide +kernel
theorem dX7_choose_48 : decode cX7_choose 48 = .ok (.iconst (-1), 1) := by decide +kernel
theorem dX7_choose_49 : decode cX7_choose 49 = .ok (.ixor, 1) := by decide +kernel
theorem dX7_choose_50 : decode cX7_choose 50 = .ok (.iand, 1) := by decide +kernel
theorem dX7_choose_51 : decode cX7_choose 51 = .ok (.iload_n 3, 1) := by decide +kernel
theorem dX7_choose_52 : decode cX7_choose 52 = .ok (.iload 4, 2) := by decide +kernel
theorem dX7_choose_54 : decode cX7_choose 54 = .ok (.invokevirtual 30, 3) := by decide +kernel
theorem dX7_choose_57 : decode cX7_choose 57 = .ok (.iload_n 2, 1) := by decide +kernel
theorem dX7_choose_58 : decode cX7_choose 58 = .ok (.iload_n 1, 1) := by decide +kernel
theorem dX7_choose_59 : decode cX7_choose 59 = .ok (.invokestatic 40, 3) := by decide +kernel
theorem dX7_choose_62 : decode cX7_choose 62 = .ok (.ifCond .eq 29, 3) := by decide +kernel
theorem dX7_choose_65 : decode cX7_choose 65 = .ok (.aload_n 0, 1) := by decide +kernel
theorem dX7_choose_66 : decode cX7_choose 66 = .ok (.iload_n 1, 1) := by decide +kernel
theorem dX7_choose_67 : decode cX7_choose 67 = .ok (.iconst 1, 1) := by decide +kernel
theorem dX7_choose_68 : decode cX7_choose 68 = .ok (.isub, 1) := by decide +kernel
theorem dX7_choose_69 : decode cX7_choose 69 = .ok (.iload_n 2, 1) := by decide +kernel
theorem dX7_choose_70 : decode cX7_choose 70 = .ok (.aload_n 0, 1) := by decide +kernel
theorem dX7_choose_71 : decode cX7_choose 71 = .ok (.getfield 7, 3) := by decide +kernel
theorem dX7_choose_74 : decode cX7_choose 74 = .ok (.iload_n 1, 1) := by decide +kernel
theorem dX7_choose_75 : decode cX7_choose 75 = .ok (.iaload, 1) := by decide +kernel
theorem dX7_choose_76 : decode cX7_choose 76 = .ok (.iconst (-1), 1) := by decide +kernel
theorem dX7_choose_77 : decode cX7_choose 77 = .ok (.ixor, 1) := by decide +kernel
theorem dX7_choose_78 : decode cX7_choose 78 = .ok (.iand, 1) := by decide +kernel
theorem dX7_choose_79 : decode cX7_choose 79 = .ok (.iload_n 3, 1) := by decide +kernel
theorem dX7_choose_80 : decode cX7_choose 80 = .ok (.iconst 1, 1) := by decide +kernel
theorem dX7_choose_81 : decode cX7_choose 81 = .ok (.iload_n 1, 1) := by decide +kernel
theorem dX7_choose_82 : decode cX7_choose 82 = .ok (.ishl, 1) := by decide +kernel
theorem dX7_choose_83 : decode cX7_choose 83 = .ok (.ior, 1) := by decide +kernel
theorem dX7_choose_84 : decode cX7_choose 84 = .ok (.iload 4, 2) := by decide +kernel
theorem dX7_choose_86 : decode cX7_choose 86 = .ok (.iconst 1, 1) := by decide +kernel
theorem dX7_choose_87 : decode cX7_choose 87 = .ok (.iadd, 1) := by decide +kernel
theorem dX7_choose_88 : decode cX7_choose 88 = .ok (.invokevirtual 30, 3) := by decide +kernel
theorem dX7_choose_91 : decode cX7_choose 91 = .ok (.return_, 1) := by decide +kernel
theorem dX8_init_0 : decode cX8_init 0 = .ok (.aload_n 0, 1) := by decide +kernel
theorem dX8_init_1 : decode cX8_init 1 = .ok (.invokespecial 3, 3) := by decide +kernel
theorem dX8_init_4 : decode cX8_init 4 = .ok (.aload_n 0, 1) := by decide +kernel
theorem dX8_init_5 : decode cX8_init 5 = .ok (.bipush 12, 2) := by decide +kernel
theorem dX8_init_7 : decode cX8_init 7 = .ok (.newarray .int, 2) := by decide +kernel
theorem dX8_init_9 : decode cX8_init 9 = .ok (.putfield 11, 3) := by decide +kernel
theorem dX8_init_12 : decode cX8_init 12 = .ok (.aload_n 0, 1) := by decide +kernel
theorem dX8_init_13 : decode cX8_init 13 = .ok (.bipush 12, 2) := by decide +kernel
theorem dX8_init_15 : decode cX8_init 15 = .ok (.newarray .int, 2) := by decide +kernel
theorem dX8_init_17 : decode cX8_init 17 = .ok (.putfield 15, 3) := by decide +kernel
theorem dX8_init_20 : decode cX8_init 20 = .ok (.aload_n 0, 1) := by decide +kernel
theorem dX8_init_21 : decode cX8_init 21 = .ok (.bipush 110, 2) := by decide +kernel
theorem dX8_init_23 : decode cX8_init 23 = .ok (.newarray .int, 2) := by decide +kernel
theorem dX8_init_25 : decode cX8_init 25 = .ok (.putfield 18, 3) := by decide +kernel
theorem dX8_init_28 : decode cX8_init 28 = .ok (.return_, 1) := by decide +kernel
theorem dX8_size_0 : decode cX8_size 0 = .ok (.aload_n 0, 1) := by decide +kernel
theorem dX8_size_1 : decode cX8_size 1 = .ok (.getfield 21, 3) := by decide +kernel
theorem dX8_size_4 : decode cX8_size 4 = .ok (.ireturn, 1) := by decide +kernel
theorem dX8_clear_0 : decode cX8_clear 0 = .ok (.aload_n 0, 1) := by decide +kernel
theorem dX8_clear_1 : decode cX8_clear 1 = .ok (.iconst 0, 1) := by decide +kernel
theorem dX8_clear_2 : decode cX8_clear 2 = .ok (.putfield 21, 3) := by decide +kernel
theorem dX8_clear_5 : decode cX8_clear 5 = .ok (.return_, 1) := by decide +kernel
theorem dX8_add_0 : decode cX8_add 0 = .ok (.aload_n 0, 1) := by decide +kernel
theorem dX8_add_1 : decode cX8_add 1 = .ok (.getfield 21, 3) := by decide +kernel
theorem dX8_add_4 : decode cX8_add 4 = .ok (.bipush 12, 2) := by decide +kernel
theorem dX8_add_6 : decode cX8_add 6 = .ok (.if_icmp .lt 6, 3) := by decide +kernel
theorem dX8_add_9 : decode cX8_add 9 = .ok (.bipush (-104), 2) := by decide +kernel
theorem dX8_add_11 : decode cX8_add 11 = .ok (.ireturn, 1) := by decide +kernel
theorem dX8_add_12 : decode cX8_add 12 = .ok (.aload_n 0, 1) := by decide +kernel
theorem dX8_add_13 : decode cX8_add 13 = .ok (.getfield 11, 3) := by decide +kernel
theorem dX8_add_16 : decode cX8_add 16 = .ok (.aload_n 0, 1) := by decide +kernel
theorem dX8_add_17 : decode cX8_add 17 = .ok (.getfield 21, 3) := by decide +kernel
theorem dX8_add_20 : decode cX8_add 20 = .ok (.iload_n 1, 1) := by decide +kernel
theorem dX8_add_21 : decode cX8_add 21 = .ok (.iastore, 1) := by decide +kernel
theorem dX8_add_22 : decode cX8_add 22 = .ok (.aload_n 0, 1) := by decide +kernel
theorem dX8_add_23 : decode cX8_add 23 = .ok (.getfield 15, 3) := by decide +kernel
theorem dX8_add_26 : decode cX8_add 26 = .ok (.aload_n 0, 1) := by decide +kernel
theorem dX8_add_27 : decode cX8_add 27 = .ok (.getfield 21, 3) := by decide +kernel
theorem dX8_add_30 : decode cX8_add 30 = .ok (.iload_n 2, 1) := by decide +kernel
theorem dX8_add_31 : decode cX8_add 31 = .ok (.iastore, 1) := by decide +kernel
theorem dX8_add_32 : decode cX8_add 32 = .ok (.aload_n 0, 1) := by decide +kernel
theorem dX8_add_33 : decode cX8_add 33 = .ok (.dup, 1) := by decide +kernel
theorem dX8_add_34 : decode cX8_add 34 = .ok (.getfield 21, 3) := by decide +kernel
theorem dX8_add_37 : decode cX8_add 37 = .ok (.iconst 1, 1) := by decide +kernel
theorem dX8_add_38 : decode cX8_add 38 = .ok (.iadd, 1) := by decide +kernel
theorem dX8_add_39 : decode cX8_add 39 = .ok (.putfield 21, 3) := by decide +kernel
theorem dX8_add_42 : decode cX8_add 42 = .ok (.aload_n 0, 1) := by decide +kernel
theorem dX8_add_43 : decode cX8_add 43 = .ok (.getfield 21, 3) := by decide +kernel
theorem dX8_add_46 : decode cX8_add 46 = .ok (.ireturn, 1) := by decide +kernel
theorem dX8_copyFrom_0 : decode cX8_copyFrom 0 = .ok (.aload_n 1, 1) := by decide +kernel
theorem dX8_copyFrom_1 : decode cX8_copyFrom 1 = .ok (.getfield 11, 3) := by decide +kernel
theorem dX8_copyFrom_4 : decode cX8_copyFrom 4 = .ok (.iconst 0, 1) := by decide +kernel
theorem dX8_copyFrom_5 : decode cX8_copyFrom 5 = .ok (.aload_n 0, 1) := by decide +kernel
theorem dX8_copyFrom_6 : decode cX8_copyFrom 6 = .ok (.getfield 11, 3) := by decide +kernel
theorem dX8_copyFrom_9 : decode cX8_copyFrom 9 = .ok (.iconst 0, 1) := by decide +kernel
theorem dX8_copyFrom_10 : decode cX8_copyFrom 10 = .ok (.bipush 12, 2) := by decide +kernel
theorem dX8_copyFrom_12 : decode cX8_copyFrom 12 = .ok (.invokestatic 25, 3) := by decide +kernel
theorem dX8_copyFrom_15 : decode cX8_copyFrom 15 = .ok (.aload_n 1, 1) := by decide +kernel
theorem dX8_copyFrom_16 : decode cX8_copyFrom 16 = .ok (.getfield 15, 3) := by decide +kernel
theorem dX8_copyFrom_19 : decode cX8_copyFrom 19 = .ok (.iconst 0, 1) := by decide +kernel
theorem dX8_copyFrom_20 : decode cX8_copyFrom 20 = .ok (.aload_n 0, 1) := by decide +kernel
theorem dX8_copyFrom_21 : decode cX8_copyFrom 21 = .ok (.getfield 15, 3) := by decide +kernel
theorem dX8_copyFrom_24 : decode cX8_copyFrom 24 = .ok (.iconst 0, 1) := by decide +kernel
theorem dX8_copyFrom_25 : decode cX8_copyFrom 25 = .ok (.bipush 12, 2) := by decide +kernel
theorem dX8_copyFrom_27 : decode cX8_copyFrom 27 = .ok (.invokestatic 25, 3) := by decide +kernel
theorem dX8_copyFrom_30 : decode cX8_copyFrom 30 = .ok (.aload_n 0, 1) := by decide +kernel
theorem dX8_copyFrom_31 : decode cX8_copyFrom 31 = .ok (.aload_n 1, 1) := by decide +kernel
theorem dX8_copyFrom_32 : decode cX8_copyFrom 32 = .ok (.getfield 21, 3) := by decide +kernel
theorem dX8_copyFrom_35 : decode cX8_copyFrom 35 = .ok (.putfield 21, 3) := by decide +kernel
theorem dX8_copyFrom_38 : decode cX8_copyFrom 38 = .ok (.return_, 1) := by decide +kernel
theorem dX8_ofPerson_0 : decode cX8_ofPerson 0 = .ok (.iconst 0, 1) := by decide +kernel
theorem dX8_ofPerson_1 : decode cX8_ofPerson 1 = .ok (.istore_n 2, 1) := by decide +kernel
theorem dX8_ofPerson_2 : decode cX8_ofPerson 2 = .ok (.iconst 0, 1) := by decide +kernel
theorem dX8_ofPerson_3 : decode cX8_ofPerson 3 = .ok (.istore_n 3, 1) := by decide +kernel
theorem dX8_ofPerson_4 : decode cX8_ofPerson 4 = .ok (.iload_n 3, 1) := by decide +kernel
theorem dX8_ofPerson_5 : decode cX8_ofPerson 5 = .ok (.aload_n 0, 1) := by decide +kernel
theorem dX8_ofPerson_6 : decode cX8_ofPerson 6 = .ok (.getfield 21, 3) := by decide +kernel
theorem dX8_ofPerson_9 : decode cX8_ofPerson 9 = .ok (.if_icmp .ge 28, 3) := by decide +kernel
theorem dX8_ofPerson_12 : decode cX8_ofPerson 12 = .ok (.iload_n 3, 1) := by decide +kernel
theorem dX8_ofPerson_13 : decode cX8_ofPerson 13 = .ok (.bipush 12, 2) := by decide +kernel
theorem dX8_ofPerson_15 : decode cX8_ofPerson 15 = .ok (.if_icmp .ge 22, 3) := by decide +kernel
theorem dX8_ofPerson_18 : decode cX8_ofPerson 18 = .ok (.aload_n 0, 1) := by decide +kernel
theorem dX8_ofPerson_19 : decode cX8_ofPerson 19 = .ok (.getfield 11, 3) := by decide +kernel
theorem dX8_ofPerson_22 : decode cX8_ofPerson 22 = .ok (.iload_n 3, 1) := by decide +kernel
theorem dX8_ofPerson_23 : decode cX8_ofPerson 23 = .ok (.iaload, 1) := by decide +kernel
theorem dX8_ofPerson_24 : decode cX8_ofPerson 24 = .ok (.iload_n 1, 1) := by decide +kernel
theorem dX8_ofPerson_25 : decode cX8_ofPerson 25 = .ok (.if_icmp .ne 6, 3) := by decide +kernel
theorem dX8_ofPerson_28 : decode cX8_ofPerson 28 = .ok (.iinc 2 1, 3) := by decide +kernel
theorem dX8_ofPerson_31 : decode cX8_ofPerson 31 = .ok (.iinc 3 1, 3) := by decide +kernel
theorem dX8_ofPerson_34 : decode cX8_ofPerson 34 = .ok (.goto (-30), 3) := by decide +kernel
theorem dX8_ofPerson_37 : decode cX8_ofPerson 37 = .ok (.iload_n 2, 1) := by decide +kernel
theorem dX8_ofPerson_38 : decode cX8_ofPerson 38 = .ok (.ireturn, 1) := by decide +kernel
theorem dX8_timesFelt_0 : decode cX8_timesFelt 0 = .ok (.iconst 0, 1) := by decide +kernel
theorem dX8_timesFelt_1 : decode cX8_timesFelt 1 = .ok (.istore 5, 2) := by decide +kernel
theorem dX8_timesFelt_3 : decode cX8_timesFelt 3 = .ok (.iconst 0, 1) := by decide +kernel
theorem dX8_timesFelt_4 : decode cX8_timesFelt 4 = .ok (.istore 6, 2) := by decide +kernel
theorem dX8_timesFelt_6 : decode cX8_timesFelt 6 = .ok (.iload 6, 2) := by decide +kernel
theorem dX8_timesFelt_8 : decode cX8_timesFelt 8 = .ok (.aload_n 0, 1) := by decide +kernel
theorem dX8_timesFelt_9 : decode cX8_timesFelt 9 = .ok (.getfield 21, 3) := by decide +kernel
theorem dX8_timesFelt_12 : decode cX8_timesFelt 12 = .ok (.if_icmp .ge 58, 3) := by decide +kernel
theorem dX8_timesFelt_15 : decode cX8_timesFelt 15 = .ok (.iload 6, 2) := by decide +kernel
theorem dX8_timesFelt_17 : decode cX8_timesFelt 17 = .ok (.bipush 12, 2) := by decide +kernel
theorem dX8_timesFelt_19 : decode cX8_timesFelt 19 = .ok (.if_icmp .ge 51, 3) := by decide +kernel
theorem dX8_timesFelt_22 : decode cX8_timesFelt 22 = .ok (.aload_n 1, 1) := by decide +kernel
theorem dX8_timesFelt_23 : decode cX8_timesFelt 23 = .ok (.aload_n 0, 1) := by decide +kernel
theorem dX8_timesFelt_24 : decode cX8_timesFelt 24 = .ok (.getfield 11, 3) := by decide +kernel
theorem dX8_timesFelt_27 : decode cX8_timesFelt 27 = .ok (.iload 6, 2) := by decide +kernel
theorem dX8_timesFelt_29 : decode cX8_timesFelt 29 = .ok (.iaload, 1) := by decide +kernel
theorem dX8_timesFelt_30 : decode cX8_timesFelt 30 = .ok (.iload_n 2, 1) := by decide +kernel
theorem dX8_timesFelt_31 : decode cX8_timesFelt 31 = .ok (.invokevirtual 31, 3) := by decide +kernel
theorem dX8_timesFelt_34 : decode cX8_timesFelt 34 = .ok (.istore 7, 2) := by decide +kernel
theorem dX8_timesFelt_36 : decode cX8_timesFelt 36 = .ok (.iload 7, 2) := by decide +kernel
theorem dX8_timesFelt_38 : decode cX8_timesFelt 38 = .ok (.iconst (-1), 1) := by decide +kernel
theorem dX8_timesFelt_39 : decode cX8_timesFelt 39 = .ok (.if_icmp .eq 25, 3) := by decide +kernel
theorem dX8_timesFelt_42 : decode cX8_timesFelt 42 = .ok (.aload_n 0, 1) := by decide +kernel
theorem dX8_timesFelt_43 : decode cX8_timesFelt 43 = .ok (.getfield 15, 3) := by decide +kernel
theorem dX8_timesFelt_46 : decode cX8_timesFelt 46 = .ok (.iload 6, 2) := by decide +kernel
theorem dX8_timesFelt_48 : decode cX8_timesFelt 48 = .ok (.iaload, 1) := by decide +kernel
theorem dX8_timesFelt_49 : decode cX8_timesFelt 49 = .ok (.iload 7, 2) := by decide +kernel
theorem dX8_timesFelt_51 : decode cX8_timesFelt 51 = .ok (.iadd, 1) := by decide +kernel
theorem dX8_timesFelt_52 : decode cX8_timesFelt 52 = .ok (.iload_n 3, 1) := by decide +kernel
theorem dX8_timesFelt_53 : decode cX8_timesFelt 53 = .ok (.iload 4, 2) := by decide +kernel
theorem dX8_timesFelt_55 : decode cX8_timesFelt 55 = .ok (.invokestatic 37, 3) := by decide +kernel
theorem dX8_timesFelt_58 : decode cX8_timesFelt 58 = .ok (.ifCond .eq 6, 3) := by decide +kernel
theorem dX8_timesFelt_61 : decode cX8_timesFelt 61 = .ok (.iinc 5 1, 3) := by decide +kernel
theorem dX8_timesFelt_64 : decode cX8_timesFelt 64 = .ok (.iinc 6 1, 3) := by decide +kernel
theorem dX8_timesFelt_67 : decode cX8_timesFelt 67 = .ok (.goto (-61), 3) := by decide +kernel
theorem dX8_timesFelt_70 : decode cX8_timesFelt 70 = .ok (.iload 5, 2) := by decide +kernel
theorem dX8_timesFelt_72 : decode cX8_timesFelt 72 = .ok (.ireturn, 1) := by decide +kernel
theorem dX8_firstOver_0 : decode cX8_firstOver 0 = .ok (.aload_n 0, 1) := by decide +kernel
theorem dX8_firstOver_1 : decode cX8_firstOver 1 = .ok (.getfield 18, 3) := by decide +kernel
theorem dX8_firstOver_4 : decode cX8_firstOver 4 = .ok (.iconst 0, 1) := by decide +kernel
theorem dX8_firstOver_5 : decode cX8_firstOver 5 = .ok (.invokestatic 41, 3) := by decide +kernel
theorem dX8_firstOver_8 : decode cX8_firstOver 8 = .ok (.iconst 0, 1) := by decide +kernel
theorem dX8_firstOver_9 : decode cX8_firstOver 9 = .ok (.istore_n 2, 1) := by decide +kernel
theorem dX8_firstOver_10 : decode cX8_firstOver 10 = .ok (.iload_n 2, 1) := by decide +kernel
theorem dX8_firstOver_11 : decode cX8_firstOver 11 = .ok (.aload_n 0, 1) := by decide +kernel
theorem dX8_firstOver_12 : decode cX8_firstOver 12 = .ok (.getfield 21, 3) := by decide +kernel
theorem dX8_firstOver_15 : decode cX8_firstOver 15 = .ok (.if_icmp .ge 37, 3) := by decide +kernel
theorem dX8_firstOver_18 : decode cX8_firstOver 18 = .ok (.iload_n 2, 1) := by decide +kernel
theorem dX8_firstOver_19 : decode cX8_firstOver 19 = .ok (.bipush 12, 2) := by decide +kernel
theorem dX8_firstOver_21 : decode cX8_firstOver 21 = .ok (.if_icmp .ge 31, 3) := by decide +kernel
theorem dX8_firstOver_24 : decode cX8_firstOver 24 = .ok (.aload_n 0, 1) := by decide +kernel
theorem dX8_firstOver_25 : decode cX8_firstOver 25 = .ok (.aload_n 1, 1) := by decide +kernel
theorem dX8_firstOver_26 : decode cX8_firstOver 26 = .ok (.aload_n 0, 1) := by decide +kernel
theorem dX8_firstOver_27 : decode cX8_firstOver 27 = .ok (.getfield 11, 3) := by decide +kernel
theorem dX8_firstOver_30 : decode cX8_firstOver 30 = .ok (.iload_n 2, 1) := by decide +kernel
theorem dX8_firstOver_31 : decode cX8_firstOver 31 = .ok (.iaload, 1) := by decide +kernel
theorem dX8_firstOver_32 : decode cX8_firstOver 32 = .ok (.aload_n 0, 1) := by decide +kernel
theorem dX8_firstOver_33 : decode cX8_firstOver 33 = .ok (.getfield 15, 3) := by decide +kernel
theorem dX8_firstOver_36 : decode cX8_firstOver 36 = .ok (.iload_n 2, 1) := by decide +kernel
theorem dX8_firstOver_37 : decode cX8_firstOver 37 = .ok (.iaload, 1) := by decide +kernel
theorem dX8_firstOver_38 : decode cX8_firstOver 38 = .ok (.invokevirtual 47, 3) := by decide +kernel
theorem dX8_firstOver_41 : decode cX8_firstOver 41 = .ok (.ifCond .eq 5, 3) := by decide +kernel
theorem dX8_firstOver_44 : decode cX8_firstOver 44 = .ok (.iload_n 2, 1) := by decide +kernel
theorem dX8_firstOver_45 : decode cX8_firstOver 45 = .ok (.ireturn, 1) := by decide +kernel
theorem dX8_firstOver_46 : decode cX8_firstOver 46 = .ok (.iinc 2 1, 3) := by decide +kernel
theorem dX8_firstOver_49 : decode cX8_firstOver 49 = .ok (.goto (-39), 3) := by decide +kernel
theorem dX8_firstOver_52 : decode cX8_firstOver 52 = .ok (.iconst (-1), 1) := by decide +kernel
theorem dX8_firstOver_53 : decode cX8_firstOver 53 = .ok (.ireturn, 1) := by decide +kernel
theorem dX8_isOverBehind_0 : decode cX8_isOverBehind 0 = .ok (.iconst 0, 1) := by decide +kernel
theorem dX8_isOverBehind_1 : decode cX8_isOverBehind 1 = .ok (.istore 4, 2) := by decide +kernel
theorem dX8_isOverBehind_3 : decode cX8_isOverBehind 3 = .ok (.iconst 0, 1) := by decide +kernel
theorem dX8_isOverBehind_4 : decode cX8_isOverBehind 4 = .ok (.istore 5, 2) := by decide +kernel
theorem dX8_isOverBehind_6 : decode cX8_isOverBehind 6 = .ok (.iload 5, 2) := by decide +kernel
theorem dX8_isOverBehind_8 : decode cX8_isOverBehind 8 = .ok (.bipush 10, 2) := by decide +kernel
theorem dX8_isOverBehind_10 : decode cX8_isOverBehind 10 = .ok (.if_icmp .ge 59, 3) := by decide +kernel
theorem dX8_isOverBehind_13 : decode cX8_isOverBehind 13 = .ok (.iload 5, 2) := by decide +kernel
theorem dX8_isOverBehind_15 : decode cX8_isOverBehind 15 = .ok (.iload_n 2, 1) := by decide +kernel
theorem dX8_isOverBehind_16 : decode cX8_isOverBehind 16 = .ok (.if_icmp .ne 7, 3) := by decide +kernel
theorem dX8_isOverBehind_19 : decode cX8_isOverBehind 19 = .ok (.iconst 0, 1) := by decide +kernel
theorem dX8_isOverBehind_20 : decode cX8_isOverBehind 20 = .ok (.goto 10, 3) := by decide +kernel
theorem dX8_isOverBehind_23 : decode cX8_isOverBehind 23 = .ok (.aload_n 1, 1) := by decide +kernel
theorem dX8_isOverBehind_24 : decode cX8_isOverBehind 24 = .ok (.iload_n 2, 1) := by decide +kernel
theorem dX8_isOverBehind_25 : decode cX8_isOverBehind 25 = .ok (.iload 5, 2) := by decide +kernel
theorem dX8_isOverBehind_27 : decode cX8_isOverBehind 27 = .ok (.invokevirtual 31, 3) := by decide +kernel
theorem dX8_isOverBehind_30 : decode cX8_isOverBehind 30 = .ok (.istore 6, 2) := by decide +kernel
theorem dX8_isOverBehind_32 : decode cX8_isOverBehind 32 = .ok (.iload 6, 2) := by decide +kernel
theorem dX8_isOverBehind_34 : decode cX8_isOverBehind 34 = .ok (.iconst (-1), 1) := by decide +kernel
theorem dX8_isOverBehind_35 : decode cX8_isOverBehind 35 = .ok (.if_icmp .eq 28, 3) := by decide +kernel
theorem dX8_isOverBehind_38 : decode cX8_isOverBehind 38 = .ok (.iload 4, 2) := by decide +kernel
theorem dX8_isOverBehind_40 : decode cX8_isOverBehind 40 = .ok (.aload_n 0, 1) := by decide +kernel
theorem dX8_isOverBehind_41 : decode cX8_isOverBehind 41 = .ok (.iload 5, 2) := by decide +kernel
theorem dX8_isOverBehind_43 : decode cX8_isOverBehind 43 = .ok (.iload_n 3, 1) := by decide +kernel
theorem dX8_isOverBehind_44 : decode cX8_isOverBehind 44 = .ok (.iload 6, 2) := by decide +kernel
theorem dX8_isOverBehind_46 : decode cX8_isOverBehind 46 = .ok (.iadd, 1) := by decide +kernel
theorem dX8_isOverBehind_47 : decode cX8_isOverBehind 47 = .ok (.invokevirtual 51, 3) := by decide +kernel
theorem dX8_isOverBehind_50 : decode cX8_isOverBehind 50 = .ok (.bipush 9, 2) := by decide +kernel
theorem dX8_isOverBehind_52 : decode cX8_isOverBehind 52 = .ok (.if_icmp .le 7, 3) := by decide +kernel
theorem dX8_isOverBehind_55 : decode cX8_isOverBehind 55 = .ok (.iconst 1, 1) := by decide +kernel
theorem dX8_isOverBehind_56 : decode cX8_isOverBehind 56 = .ok (.goto 4, 3) := by decide +kernel
theorem dX8_isOverBehind_59 : decode cX8_isOverBehind 59 = .ok (.iconst 0, 1) := by decide +kernel
theorem dX8_isOverBehind_60 : decode cX8_isOverBehind 60 = .ok (.ior, 1) := by decide +kernel
theorem dX8_isOverBehind_61 : decode cX8_isOverBehind 61 = .ok (.istore 4, 2) := by decide +kernel
theorem dX8_isOverBehind_63 : decode cX8_isOverBehind 63 = .ok (.iinc 5 1, 3) := by decide +kernel
theorem dX8_isOverBehind_66 : decode cX8_isOverBehind 66 = .ok (.goto (-60), 3) := by decide +kernel
theorem dX8_isOverBehind_69 : decode cX8_isOverBehind 69 = .ok (.iload 4, 2) := by decide +kernel
theorem dX8_isOverBehind_71 : decode cX8_isOverBehind 71 = .ok (.ireturn, 1) := by decide +kernel
theorem dX8_talliedFor_0 : decode cX8_talliedFor 0 = .ok (.iload_n 1, 1) := by decide +kernel
theorem dX8_talliedFor_1 : decode cX8_talliedFor 1 = .ok (.bipush 11, 2) := by decide +kernel
theorem dX8_talliedFor_3 : decode cX8_talliedFor 3 = .ok (.imul, 1) := by decide +kernel
theorem dX8_talliedFor_4 : decode cX8_talliedFor 4 = .ok (.iload_n 2, 1) := by decide +kernel
theorem dX8_talliedFor_5 : decode cX8_talliedFor 5 = .ok (.bipush 100, 2) := by decide +kernel
theorem dX8_talliedFor_7 : decode cX8_talliedFor 7 = .ok (.idiv, 1) := by decide +kernel
theorem dX8_talliedFor_8 : decode cX8_talliedFor 8 = .ok (.iadd, 1) := by decide +kernel
theorem dX8_talliedFor_9 : decode cX8_talliedFor 9 = .ok (.istore_n 3, 1) := by decide +kernel
theorem dX8_talliedFor_10 : decode cX8_talliedFor 10 = .ok (.iload_n 3, 1) := by decide +kernel
theorem dX8_talliedFor_11 : decode cX8_talliedFor 11 = .ok (.ifCond .lt 12, 3) := by decide +kernel
theorem dX8_talliedFor_14 : decode cX8_talliedFor 14 = .ok (.iload_n 3, 1) := by decide +kernel
theorem dX8_talliedFor_15 : decode cX8_talliedFor 15 = .ok (.aload_n 0, 1) := by decide +kernel
theorem dX8_talliedFor_16 : decode cX8_talliedFor 16 = .ok (.getfield 18, 3) := by decide +kernel
theorem dX8_talliedFor_19 : decode cX8_talliedFor 19 = .ok (.arraylength, 1) := by decide +kernel
theorem dX8_talliedFor_20 : decode cX8_talliedFor 20 = .ok (.if_icmp .lt 5, 3) := by decide +kernel
theorem dX8_talliedFor_23 : decode cX8_talliedFor 23 = .ok (.iconst 0, 1) := by decide +kernel
theorem dX8_talliedFor_24 : decode cX8_talliedFor 24 = .ok (.ireturn, 1) := by decide +kernel
theorem dX8_talliedFor_25 : decode cX8_talliedFor 25 = .ok (.aload_n 0, 1) := by decide +kernel
theorem dX8_talliedFor_26 : decode cX8_talliedFor 26 = .ok (.getfield 18, 3) := by decide +kernel
theorem dX8_talliedFor_29 : decode cX8_talliedFor 29 = .ok (.iload_n 3, 1) := by decide +kernel
theorem dX8_talliedFor_30 : decode cX8_talliedFor 30 = .ok (.dup2, 1) := by decide +kernel
theorem dX8_talliedFor_31 : decode cX8_talliedFor 31 = .ok (.iaload, 1) := by decide +kernel
theorem dX8_talliedFor_32 : decode cX8_talliedFor 32 = .ok (.iconst 1, 1) := by decide +kernel
theorem dX8_talliedFor_33 : decode cX8_talliedFor 33 = .ok (.iadd, 1) := by decide +kernel
theorem dX8_talliedFor_34 : decode cX8_talliedFor 34 = .ok (.iastore, 1) := by decide +kernel
theorem dX8_talliedFor_35 : decode cX8_talliedFor 35 = .ok (.aload_n 0, 1) := by decide +kernel
theorem dX8_talliedFor_36 : decode cX8_talliedFor 36 = .ok (.getfield 18, 3) := by decide +kernel
theorem dX8_talliedFor_39 : decode cX8_talliedFor 39 = .ok (.iload_n 3, 1) := by decide +kernel
theorem dX8_talliedFor_40 : decode cX8_talliedFor 40 = .ok (.iaload, 1) := by decide +kernel
theorem dX8_talliedFor_41 : decode cX8_talliedFor 41 = .ok (.ireturn, 1) := by decide +kernel
theorem dX9_init_0 : decode cX9_init 0 = .ok (.aload_n 0, 1) := by decide +kernel
theorem dX9_init_1 : decode cX9_init 1 = .ok (.invokespecial 3, 3) := by decide +kernel
theorem dX9_init_4 : decode cX9_init 4 = .ok (.aload_n 0, 1) := by decide +kernel
theorem dX9_init_5 : decode cX9_init 5 = .ok (.bipush 36, 2) := by decide +kernel
theorem dX9_init_7 : decode cX9_init 7 = .ok (.newarray .int, 2) := by decide +kernel
theorem dX9_init_9 : decode cX9_init 9 = .ok (.putfield 9, 3) := by decide +kernel
theorem dX9_init_12 : decode cX9_init 12 = .ok (.return_, 1) := by decide +kernel
theorem dX9_between_0 : decode cX9_between 0 = .ok (.iload_n 1, 1) := by decide +kernel
theorem dX9_between_1 : decode cX9_between 1 = .ok (.invokestatic 15, 3) := by decide +kernel
theorem dX9_between_4 : decode cX9_between 4 = .ok (.ifCond .eq 24, 3) := by decide +kernel
theorem dX9_between_7 : decode cX9_between 7 = .ok (.iload_n 2, 1) := by decide +kernel
theorem dX9_between_8 : decode cX9_between 8 = .ok (.invokestatic 15, 3) := by decide +kernel
theorem dX9_between_11 : decode cX9_between 11 = .ok (.ifCond .eq 17, 3) := by decide +kernel
theorem dX9_between_14 : decode cX9_between 14 = .ok (.aload_n 0, 1) := by decide +kernel
theorem dX9_between_15 : decode cX9_between 15 = .ok (.getfield 9, 3) := by decide +kernel
theorem dX9_between_18 : decode cX9_between 18 = .ok (.iload_n 1, 1) := by decide +kernel
theorem dX9_between_19 : decode cX9_between 19 = .ok (.bipush 6, 2) := by decide +kernel
theorem dX9_between_21 : decode cX9_between 21 = .ok (.imul, 1) := by decide +kernel
theorem dX9_between_22 : decode cX9_between 22 = .ok (.iload_n 2, 1) := by decide +kernel
theorem dX9_between_23 : decode cX9_between 23 = .ok (.iadd, 1) := by decide +kernel
theorem dX9_between_24 : decode cX9_between 24 = .ok (.iaload, 1) := by decide +kernel
theorem dX9_between_25 : decode cX9_between 25 = .ok (.goto 5, 3) := by decide +kernel
theorem dX9_between_28 : decode cX9_between 28 = .ok (.ldc 19, 2) := by decide +kernel
theorem dX9_between_30 : decode cX9_between 30 = .ok (.ireturn, 1) := by decide +kernel
theorem dX9_clear_0 : decode cX9_clear 0 = .ok (.aload_n 0, 1) := by decide +kernel
theorem dX9_clear_1 : decode cX9_clear 1 = .ok (.getfield 9, 3) := by decide +kernel
theorem dX9_clear_4 : decode cX9_clear 4 = .ok (.ldc 19, 2) := by decide +kernel
theorem dX9_clear_6 : decode cX9_clear 6 = .ok (.invokestatic 20, 3) := by decide +kernel
theorem dX9_clear_9 : decode cX9_clear 9 = .ok (.iconst 0, 1) := by decide +kernel
theorem dX9_clear_10 : decode cX9_clear 10 = .ok (.istore_n 1, 1) := by decide +kernel
theorem dX9_clear_11 : decode cX9_clear 11 = .ok (.iload_n 1, 1) := by decide +kernel
theorem dX9_clear_12 : decode cX9_clear 12 = .ok (.bipush 6, 2) := by decide +kernel
theorem dX9_clear_14 : decode cX9_clear 14 = .ok (.if_icmp .ge 16, 3) := by decide +kernel
theorem dX9_clear_17 : decode cX9_clear 17 = .ok (.aload_n 0, 1) := by decide +kernel
theorem dX9_clear_18 : decode cX9_clear 18 = .ok (.iload_n 1, 1) := by decide +kernel
theorem dX9_clear_19 : decode cX9_clear 19 = .ok (.iload_n 1, 1) := by decide +kernel
theorem dX9_clear_20 : decode cX9_clear 20 = .ok (.iconst 0, 1) := by decide +kernel
theorem dX9_clear_21 : decode cX9_clear 21 = .ok (.invokevirtual 26, 3) := by decide +kernel
theorem dX9_clear_24 : decode cX9_clear 24 = .ok (.iinc 1 1, 3) := by decide +kernel
theorem dX9_clear_27 : decode cX9_clear 27 = .ok (.goto (-16), 3) := by decide +kernel
theorem dX9_clear_30 : decode cX9_clear 30 = .ok (.return_, 1) := by decide +kernel
theorem dX9_shorten_0 : decode cX9_shorten 0 = .ok (.iload_n 1, 1) := by decide +kernel
theorem dX9_shorten_1 : decode cX9_shorten 1 = .ok (.invokestatic 15, 3) := by decide +kernel
theorem dX9_shorten_4 : decode cX9_shorten 4 = .ok (.ifCond .eq 10, 3) := by decide +kernel
theorem dX9_shorten_7 : decode cX9_shorten 7 = .ok (.iload_n 2, 1) := by decide +kernel
theorem dX9_shorten_8 : decode cX9_shorten 8 = .ok (.invokestatic 15, 3) := by decide +kernel
theorem dX9_shorten_11 : decode cX9_shorten 11 = .ok (.ifCond .ne 4, 3) := by decide +kernel
theorem dX9_shorten_14 : decode cX9_shorten 14 = .ok (.return_, 1) := by decide +kernel
theorem dX9_shorten_15 : decode cX9_shorten 15 = .ok (.iload_n 1, 1) := by decide +kernel
theorem dX9_shorten_16 : decode cX9_shorten 16 = .ok (.bipush 6, 2) := by decide +kernel
theorem dX9_shorten_18 : decode cX9_shorten 18 = .ok (.imul, 1) := by decide +kernel
theorem dX9_shorten_19 : decode cX9_shorten 19 = .ok (.iload_n 2, 1) := by decide +kernel
theorem dX9_shorten_20 : decode cX9_shorten 20 = .ok (.iadd, 1) := by decide +kernel
theorem dX9_shorten_21 : decode cX9_shorten 21 = .ok (.istore 4, 2) := by decide +kernel
theorem dX9_shorten_23 : decode cX9_shorten 23 = .ok (.aload_n 0, 1) := by decide +kernel
theorem dX9_shorten_24 : decode cX9_shorten 24 = .ok (.getfield 9, 3) := by decide +kernel
theorem dX9_shorten_27 : decode cX9_shorten 27 = .ok (.iload 4, 2) := by decide +kernel
theorem dX9_shorten_29 : decode cX9_shorten 29 = .ok (.aload_n 0, 1) := by decide +kernel
theorem dX9_shorten_30 : decode cX9_shorten 30 = .ok (.getfield 9, 3) := by decide +kernel
theorem dX9_shorten_33 : decode cX9_shorten 33 = .ok (.iload 4, 2) := by decide +kernel
theorem dX9_shorten_35 : decode cX9_shorten 35 = .ok (.iaload, 1) := by decide +kernel
theorem dX9_shorten_36 : decode cX9_shorten 36 = .ok (.iload_n 3, 1) := by decide +kernel
theorem dX9_shorten_37 : decode cX9_shorten 37 = .ok (.invokestatic 30, 3) := by decide +kernel
theorem dX9_shorten_40 : decode cX9_shorten 40 = .ok (.iastore, 1) := by decide +kernel
theorem dX9_shorten_41 : decode cX9_shorten 41 = .ok (.return_, 1) := by decide +kernel
theorem dX9_joinWays_0 : decode cX9_joinWays 0 = .ok (.iconst 0, 1) := by decide +kernel
theorem dX9_joinWays_1 : decode cX9_joinWays 1 = .ok (.istore_n 1, 1) := by decide +kernel
theorem dX9_joinWays_2 : decode cX9_joinWays 2 = .ok (.iload_n 1, 1) := by decide +kernel
theorem dX9_joinWays_3 : decode cX9_joinWays 3 = .ok (.bipush 6, 2) := by decide +kernel
theorem dX9_joinWays_5 : decode cX9_joinWays 5 = .ok (.if_icmp .ge 29, 3) := by decide +kernel

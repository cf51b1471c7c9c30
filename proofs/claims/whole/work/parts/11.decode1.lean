theorem dX0_init_0 : decode cX0_init 0 = .ok (.aload_n 0, 1) := by decide +kernel
theorem dX0_init_1 : decode cX0_init 1 = .ok (.invokespecial 3, 3) := by decide +kernel
theorem dX0_init_4 : decode cX0_init 4 = .ok (.aload_n 0, 1) := by decide +kernel
theorem dX0_init_5 : decode cX0_init 5 = .ok (.iconst 4, 1) := by decide +kernel
theorem dX0_init_6 : decode cX0_init 6 = .ok (.newarray .int, 2) := by decide +kernel
theorem dX0_init_8 : decode cX0_init 8 = .ok (.putfield 11, 3) := by decide +kernel
theorem dX0_init_11 : decode cX0_init 11 = .ok (.return_, 1) := by decide +kernel
theorem dX0_begin_0 : decode cX0_begin 0 = .ok (.aload_n 0, 1) := by decide +kernel
theorem dX0_begin_1 : decode cX0_begin 1 = .ok (.iconst 0, 1) := by decide +kernel
theorem dX0_begin_2 : decode cX0_begin 2 = .ok (.putfield 15, 3) := by decide +kernel
theorem dX0_begin_5 : decode cX0_begin 5 = .ok (.aload_n 0, 1) := by decide +kernel
theorem dX0_begin_6 : decode cX0_begin 6 = .ok (.iconst 0, 1) := by decide +kernel
theorem dX0_begin_7 : decode cX0_begin 7 = .ok (.putfield 19, 3) := by decide +kernel
theorem dX0_begin_10 : decode cX0_begin 10 = .ok (.aload_n 0, 1) := by decide +kernel
theorem dX0_begin_11 : decode cX0_begin 11 = .ok (.iconst 0, 1) := by decide +kernel
theorem dX0_begin_12 : decode cX0_begin 12 = .ok (.putfield 22, 3) := by decide +kernel
theorem dX0_begin_15 : decode cX0_begin 15 = .ok (.return_, 1) := by decide +kernel
theorem dX0_takeSign_0 : decode cX0_takeSign 0 = .ok (.aload_n 0, 1) := by decide +kernel
theorem dX0_takeSign_1 : decode cX0_takeSign 1 = .ok (.getfield 15, 3) := by decide +kernel
theorem dX0_takeSign_4 : decode cX0_takeSign 4 = .ok (.ifCond .ne 10, 3) := by decide +kernel
theorem dX0_takeSign_7 : decode cX0_takeSign 7 = .ok (.aload_n 0, 1) := by decide +kernel
theorem dX0_takeSign_8 : decode cX0_takeSign 8 = .ok (.getfield 22, 3) := by decide +kernel
theorem dX0_takeSign_11 : decode cX0_takeSign 11 = .ok (.ifCond .eq 5, 3) := by decide +kernel
theorem dX0_takeSign_14 : decode cX0_takeSign 14 = .ok (.iconst 0, 1) := by decide +kernel
theorem dX0_takeSign_15 : decode cX0_takeSign 15 = .ok (.ireturn, 1) := by decide +kernel
theorem dX0_takeSign_16 : decode cX0_takeSign 16 = .ok (.aload_n 0, 1) := by decide +kernel
theorem dX0_takeSign_17 : decode cX0_takeSign 17 = .ok (.iload_n 1, 1) := by decide +kernel
theorem dX0_takeSign_18 : decode cX0_takeSign 18 = .ok (.putfield 15, 3) := by decide +kernel
theorem dX0_takeSign_21 : decode cX0_takeSign 21 = .ok (.iconst 1, 1) := by decide +kernel
theorem dX0_takeSign_22 : decode cX0_takeSign 22 = .ok (.ireturn, 1) := by decide +kernel
theorem dX0_needsAmount_0 : decode cX0_needsAmount 0 = .ok (.aload_n 0, 1) := by decide +kernel
theorem dX0_needsAmount_1 : decode cX0_needsAmount 1 = .ok (.getfield 15, 3) := by decide +kernel
theorem dX0_needsAmount_4 : decode cX0_needsAmount 4 = .ok (.iconst 2, 1) := by decide +kernel
theorem dX0_needsAmount_5 : decode cX0_needsAmount 5 = .ok (.if_icmp .eq 11, 3) := by decide +kernel
theorem dX0_needsAmount_8 : decode cX0_needsAmount 8 = .ok (.aload_n 0, 1) := by decide +kernel
theorem dX0_needsAmount_9 : decode cX0_needsAmount 9 = .ok (.getfield 15, 3) := by decide +kernel
theorem dX0_needsAmount_12 : decode cX0_needsAmount 12 = .ok (.iconst 3, 1) := by decide +kernel
theorem dX0_needsAmount_13 : decode cX0_needsAmount 13 = .ok (.if_icmp .ne 14, 3) := by decide +kernel
theorem dX0_needsAmount_16 : decode cX0_needsAmount 16 = .ok (.aload_n 0, 1) := by decide +kernel
theorem dX0_needsAmount_17 : decode cX0_needsAmount 17 = .ok (.getfield 19, 3) := by decide +kernel
theorem dX0_needsAmount_20 : decode cX0_needsAmount 20 = .ok (.ifCond .ne 7, 3) := by decide +kernel
theorem dX0_needsAmount_23 : decode cX0_needsAmount 23 = .ok (.iconst 1, 1) := by decide +kernel
theorem dX0_needsAmount_24 : decode cX0_needsAmount 24 = .ok (.goto 4, 3) := by decide +kernel
theorem dX0_needsAmount_27 : decode cX0_needsAmount 27 = .ok (.iconst 0, 1) := by decide +kernel
theorem dX0_needsAmount_28 : decode cX0_needsAmount 28 = .ok (.ireturn, 1) := by decide +kernel
theorem dX0_takeAmount_0 : decode cX0_takeAmount 0 = .ok (.aload_n 0, 1) := by decide +kernel
theorem dX0_takeAmount_1 : decode cX0_takeAmount 1 = .ok (.iload_n 1, 1) := by decide +kernel
theorem dX0_takeAmount_2 : decode cX0_takeAmount 2 = .ok (.putfield 19, 3) := by decide +kernel
theorem dX0_takeAmount_5 : decode cX0_takeAmount 5 = .ok (.iload_n 1, 1) := by decide +kernel
theorem dX0_takeAmount_6 : decode cX0_takeAmount 6 = .ok (.ifCond .eq 7, 3) := by decide +kernel
theorem dX0_takeAmount_9 : decode cX0_takeAmount 9 = .ok (.iconst 1, 1) := by decide +kernel
theorem dX0_takeAmount_10 : decode cX0_takeAmount 10 = .ok (.goto 4, 3) := by decide +kernel
theorem dX0_takeAmount_13 : decode cX0_takeAmount 13 = .ok (.iconst 0, 1) := by decide +kernel
theorem dX0_takeAmount_14 : decode cX0_takeAmount 14 = .ok (.ireturn, 1) := by decide +kernel
theorem dX0_takePerson_0 : decode cX0_takePerson 0 = .ok (.aload_n 0, 1) := by decide +kernel
theorem dX0_takePerson_1 : decode cX0_takePerson 1 = .ok (.getfield 15, 3) := by decide +kernel
theorem dX0_takePerson_4 : decode cX0_takePerson 4 = .ok (.iconst 1, 1) := by decide +kernel
theorem dX0_takePerson_5 : decode cX0_takePerson 5 = .ok (.if_icmp .ne 7, 3) := by decide +kernel
theorem dX0_takePerson_8 : decode cX0_takePerson 8 = .ok (.iconst 4, 1) := by decide +kernel
theorem dX0_takePerson_9 : decode cX0_takePerson 9 = .ok (.goto 4, 3) := by decide +kernel
theorem dX0_takePerson_12 : decode cX0_takePerson 12 = .ok (.iconst 2, 1) := by decide +kernel
theorem dX0_takePerson_13 : decode cX0_takePerson 13 = .ok (.istore_n 2, 1) := by decide +kernel
theorem dX0_takePerson_14 : decode cX0_takePerson 14 = .ok (.aload_n 0, 1) := by decide +kernel
theorem dX0_takePerson_15 : decode cX0_takePerson 15 = .ok (.getfield 22, 3) := by decide +kernel
theorem dX0_takePerson_18 : decode cX0_takePerson 18 = .ok (.iload_n 2, 1) := by decide +kernel
theorem dX0_takePerson_19 : decode cX0_takePerson 19 = .ok (.if_icmp .lt 5, 3) := by decide +kernel
theorem dX0_takePerson_22 : decode cX0_takePerson 22 = .ok (.iconst 0, 1) := by decide +kernel
theorem dX0_takePerson_23 : decode cX0_takePerson 23 = .ok (.ireturn, 1) := by decide +kernel
theorem dX0_takePerson_24 : decode cX0_takePerson 24 = .ok (.aload_n 0, 1) := by decide +kernel
theorem dX0_takePerson_25 : decode cX0_takePerson 25 = .ok (.getfield 11, 3) := by decide +kernel
theorem dX0_takePerson_28 : decode cX0_takePerson 28 = .ok (.aload_n 0, 1) := by decide +kernel
theorem dX0_takePerson_29 : decode cX0_takePerson 29 = .ok (.getfield 22, 3) := by decide +kernel
theorem dX0_takePerson_32 : decode cX0_takePerson 32 = .ok (.iload_n 1, 1) := by decide +kernel
theorem dX0_takePerson_33 : decode cX0_takePerson 33 = .ok (.iastore, 1) := by decide +kernel
theorem dX0_takePerson_34 : decode cX0_takePerson 34 = .ok (.aload_n 0, 1) := by decide +kernel
theorem dX0_takePerson_35 : decode cX0_takePerson 35 = .ok (.dup, 1) := by decide +kernel
theorem dX0_takePerson_36 : decode cX0_takePerson 36 = .ok (.getfield 22, 3) := by decide +kernel
theorem dX0_takePerson_39 : decode cX0_takePerson 39 = .ok (.iconst 1, 1) := by decide +kernel
theorem dX0_takePerson_40 : decode cX0_takePerson 40 = .ok (.iadd, 1) := by decide +kernel
theorem dX0_takePerson_41 : decode cX0_takePerson 41 = .ok (.putfield 22, 3) := by decide +kernel
theorem dX0_takePerson_44 : decode cX0_takePerson 44 = .ok (.iconst 1, 1) := by decide +kernel
theorem dX0_takePerson_45 : decode cX0_takePerson 45 = .ok (.ireturn, 1) := by decide +kernel
theorem dX0_isWhole_0 : decode cX0_isWhole 0 = .ok (.aload_n 0, 1) := by decide +kernel
theorem dX0_isWhole_1 : decode cX0_isWhole 1 = .ok (.getfield 22, 3) := by decide +kernel
theorem dX0_isWhole_4 : decode cX0_isWhole 4 = .ok (.aload_n 0, 1) := by decide +kernel
theorem dX0_isWhole_5 : decode cX0_isWhole 5 = .ok (.getfield 15, 3) := by decide +kernel
theorem dX0_isWhole_8 : decode cX0_isWhole 8 = .ok (.iconst 1, 1) := by decide +kernel
theorem dX0_isWhole_9 : decode cX0_isWhole 9 = .ok (.if_icmp .ne 7, 3) := by decide +kernel
theorem dX0_isWhole_12 : decode cX0_isWhole 12 = .ok (.iconst 3, 1) := by decide +kernel
theorem dX0_isWhole_13 : decode cX0_isWhole 13 = .ok (.goto 4, 3) := by decide +kernel
theorem dX0_isWhole_16 : decode cX0_isWhole 16 = .ok (.iconst 2, 1) := by decide +kernel
theorem dX0_isWhole_17 : decode cX0_isWhole 17 = .ok (.if_icmp .lt 7, 3) := by decide +kernel
theorem dX0_isWhole_20 : decode cX0_isWhole 20 = .ok (.iconst 1, 1) := by decide +kernel
theorem dX0_isWhole_21 : decode cX0_isWhole 21 = .ok (.goto 4, 3) := by decide +kernel
theorem dX0_isWhole_24 : decode cX0_isWhole 24 = .ok (.iconst 0, 1) := by decide +kernel
theorem dX0_isWhole_25 : decode cX0_isWhole 25 = .ok (.ireturn, 1) := by decide +kernel
theorem dX0_isA_0 : decode cX0_isA 0 = .ok (.iload_n 1, 1) := by decide +kernel
theorem dX0_isA_1 : decode cX0_isA 1 = .ok (.ifCond .eq 11, 3) := by decide +kernel
theorem dX0_isA_4 : decode cX0_isA 4 = .ok (.iload_n 1, 1) := by decide +kernel
theorem dX0_isA_5 : decode cX0_isA 5 = .ok (.aload_n 0, 1) := by decide +kernel
theorem dX0_isA_6 : decode cX0_isA 6 = .ok (.getfield 15, 3) := by decide +kernel
theorem dX0_isA_9 : decode cX0_isA 9 = .ok (.if_icmp .ne 7, 3) := by decide +kernel
theorem dX0_isA_12 : decode cX0_isA 12 = .ok (.iconst 1, 1) := by decide +kernel
theorem dX0_isA_13 : decode cX0_isA 13 = .ok (.goto 4, 3) := by decide +kernel
theorem dX0_isA_16 : decode cX0_isA 16 = .ok (.iconst 0, 1) := by decide +kernel
theorem dX0_isA_17 : decode cX0_isA 17 = .ok (.ireturn, 1) := by decide +kernel
theorem dX0_size_0 : decode cX0_size 0 = .ok (.aload_n 0, 1) := by decide +kernel
theorem dX0_size_1 : decode cX0_size 1 = .ok (.getfield 22, 3) := by decide +kernel
theorem dX0_size_4 : decode cX0_size 4 = .ok (.ireturn, 1) := by decide +kernel
theorem dX0_tenths_0 : decode cX0_tenths 0 = .ok (.aload_n 0, 1) := by decide +kernel
theorem dX0_tenths_1 : decode cX0_tenths 1 = .ok (.getfield 15, 3) := by decide +kernel
theorem dX0_tenths_4 : decode cX0_tenths 4 = .ok (.iconst 2, 1) := by decide +kernel
theorem dX0_tenths_5 : decode cX0_tenths 5 = .ok (.if_icmp .ne 10, 3) := by decide +kernel
theorem dX0_tenths_8 : decode cX0_tenths 8 = .ok (.aload_n 0, 1) := by decide +kernel
theorem dX0_tenths_9 : decode cX0_tenths 9 = .ok (.getfield 19, 3) := by decide +kernel
theorem dX0_tenths_12 : decode cX0_tenths 12 = .ok (.goto 5, 3) := by decide +kernel
theorem dX0_tenths_15 : decode cX0_tenths 15 = .ok (.bipush 10, 2) := by decide +kernel
theorem dX0_tenths_17 : decode cX0_tenths 17 = .ok (.ireturn, 1) := by decide +kernel
theorem dX0_fact_0 : decode cX0_fact 0 = .ok (.iload_n 1, 1) := by decide +kernel
theorem dX0_fact_1 : decode cX0_fact 1 = .ok (.tableswitch 42 0 2 #[27, 32, 37], 27) := by decide +kernel
theorem dX0_fact_28 : decode cX0_fact 28 = .ok (.aload_n 0, 1) := by decide +kernel
theorem dX0_fact_29 : decode cX0_fact 29 = .ok (.getfield 15, 3) := by decide +kernel
theorem dX0_fact_32 : decode cX0_fact 32 = .ok (.ireturn, 1) := by decide +kernel
theorem dX0_fact_33 : decode cX0_fact 33 = .ok (.aload_n 0, 1) := by decide +kernel
theorem dX0_fact_34 : decode cX0_fact 34 = .ok (.getfield 22, 3) := by decide +kernel
theorem dX0_fact_37 : decode cX0_fact 37 = .ok (.ireturn, 1) := by decide +kernel
theorem dX0_fact_38 : decode cX0_fact 38 = .ok (.aload_n 0, 1) := by decide +kernel
theorem dX0_fact_39 : decode cX0_fact 39 = .ok (.getfield 19, 3) := by decide +kernel
theorem dX0_fact_42 : decode cX0_fact 42 = .ok (.ireturn, 1) := by decide +kernel
theorem dX0_fact_43 : decode cX0_fact 43 = .ok (.aload_n 0, 1) := by decide +kernel
theorem dX0_fact_44 : decode cX0_fact 44 = .ok (.iload_n 1, 1) := by decide +kernel
theorem dX0_fact_45 : decode cX0_fact 45 = .ok (.iconst 3, 1) := by decide +kernel
theorem dX0_fact_46 : decode cX0_fact 46 = .ok (.isub, 1) := by decide +kernel
theorem dX0_fact_47 : decode cX0_fact 47 = .ok (.invokevirtual 25, 3) := by decide +kernel
theorem dX0_fact_50 : decode cX0_fact 50 = .ok (.ireturn, 1) := by decide +kernel
theorem dX0_member_0 : decode cX0_member 0 = .ok (.iload_n 1, 1) := by decide +kernel
theorem dX0_member_1 : decode cX0_member 1 = .ok (.ifCond .lt 25, 3) := by decide +kernel
theorem dX0_member_4 : decode cX0_member 4 = .ok (.iload_n 1, 1) := by decide +kernel
theorem dX0_member_5 : decode cX0_member 5 = .ok (.aload_n 0, 1) := by decide +kernel
theorem dX0_member_6 : decode cX0_member 6 = .ok (.getfield 22, 3) := by decide +kernel
theorem dX0_member_9 : decode cX0_member 9 = .ok (.if_icmp .ge 17, 3) := by decide +kernel
theorem dX0_member_12 : decode cX0_member 12 = .ok (.iload_n 1, 1) := by decide +kernel
theorem dX0_member_13 : decode cX0_member 13 = .ok (.iconst 4, 1) := by decide +kernel
theorem dX0_member_14 : decode cX0_member 14 = .ok (.if_icmp .ge 12, 3) := by decide +kernel
theorem dX0_member_17 : decode cX0_member 17 = .ok (.aload_n 0, 1) := by decide +kernel
theorem dX0_member_18 : decode cX0_member 18 = .ok (.getfield 11, 3) := by decide +kernel
theorem dX0_member_21 : decode cX0_member 21 = .ok (.iload_n 1, 1) := by decide +kernel
theorem dX0_member_22 : decode cX0_member 22 = .ok (.iaload, 1) := by decide +kernel
theorem dX0_member_23 : decode cX0_member 23 = .ok (.goto 4, 3) := by decide +kernel
theorem dX0_member_26 : decode cX0_member 26 = .ok (.iconst (-1), 1) := by decide +kernel
theorem dX0_member_27 : decode cX0_member 27 = .ok (.ireturn, 1) := by decide +kernel
theorem dX0_placeOf_0 : decode cX0_placeOf 0 = .ok (.iconst 0, 1) := by decide +kernel
theorem dX0_placeOf_1 : decode cX0_placeOf 1 = .ok (.istore_n 2, 1) := by decide +kernel
theorem dX0_placeOf_2 : decode cX0_placeOf 2 = .ok (.iload_n 2, 1) := by decide +kernel
theorem dX0_placeOf_3 : decode cX0_placeOf 3 = .ok (.aload_n 0, 1) := by decide +kernel
theorem dX0_placeOf_4 : decode cX0_placeOf 4 = .ok (.getfield 22, 3) := by decide +kernel
theorem dX0_placeOf_7 : decode cX0_placeOf 7 = .ok (.if_icmp .ge 20, 3) := by decide +kernel
theorem dX0_placeOf_10 : decode cX0_placeOf 10 = .ok (.aload_n 0, 1) := by decide +kernel
theorem dX0_placeOf_11 : decode cX0_placeOf 11 = .ok (.iload_n 2, 1) := by decide +kernel
theorem dX0_placeOf_12 : decode cX0_placeOf 12 = .ok (.invokevirtual 25, 3) := by decide +kernel
theorem dX0_placeOf_15 : decode cX0_placeOf 15 = .ok (.iload_n 1, 1) := by decide +kernel
theorem dX0_placeOf_16 : decode cX0_placeOf 16 = .ok (.if_icmp .ne 5, 3) := by decide +kernel
theorem dX0_placeOf_19 : decode cX0_placeOf 19 = .ok (.iload_n 2, 1) := by decide +kernel
theorem dX0_placeOf_20 : decode cX0_placeOf 20 = .ok (.ireturn, 1) := by decide +kernel
theorem dX0_placeOf_21 : decode cX0_placeOf 21 = .ok (.iinc 2 1, 3) := by decide +kernel
theorem dX0_placeOf_24 : decode cX0_placeOf 24 = .ok (.goto (-22), 3) := by decide +kernel
theorem dX0_placeOf_27 : decode cX0_placeOf 27 = .ok (.iconst (-1), 1) := by decide +kernel
theorem dX0_placeOf_28 : decode cX0_placeOf 28 = .ok (.ireturn, 1) := by decide +kernel
theorem dX0_hasAnyOf_0 : decode cX0_hasAnyOf 0 = .ok (.iconst 0, 1) := by decide +kernel
theorem dX0_hasAnyOf_1 : decode cX0_hasAnyOf 1 = .ok (.istore_n 2, 1) := by decide +kernel
theorem dX0_hasAnyOf_2 : decode cX0_hasAnyOf 2 = .ok (.iload_n 2, 1) := by decide +kernel
theorem dX0_hasAnyOf_3 : decode cX0_hasAnyOf 3 = .ok (.aload_n 0, 1) := by decide +kernel
theorem dX0_hasAnyOf_4 : decode cX0_hasAnyOf 4 = .ok (.getfield 22, 3) := by decide +kernel
theorem dX0_hasAnyOf_7 : decode cX0_hasAnyOf 7 = .ok (.if_icmp .ge 23, 3) := by decide +kernel
theorem dX0_hasAnyOf_10 : decode cX0_hasAnyOf 10 = .ok (.iload_n 1, 1) := by decide +kernel
theorem dX0_hasAnyOf_11 : decode cX0_hasAnyOf 11 = .ok (.aload_n 0, 1) := by decide +kernel
theorem dX0_hasAnyOf_12 : decode cX0_hasAnyOf 12 = .ok (.iload_n 2, 1) := by decide +kernel
theorem dX0_hasAnyOf_13 : decode cX0_hasAnyOf 13 = .ok (.invokevirtual 25, 3) := by decide +kernel
theorem dX0_hasAnyOf_16 : decode cX0_hasAnyOf 16 = .ok (.invokestatic 29, 3) := by decide +kernel
theorem dX0_hasAnyOf_19 : decode cX0_hasAnyOf 19 = .ok (.ifCond .eq 5, 3) := by decide +kernel
theorem dX0_hasAnyOf_22 : decode cX0_hasAnyOf 22 = .ok (.iconst 1, 1) := by decide +kernel
theorem dX0_hasAnyOf_23 : decode cX0_hasAnyOf 23 = .ok (.ireturn, 1) := by decide +kernel
theorem dX0_hasAnyOf_24 : decode cX0_hasAnyOf 24 = .ok (.iinc 2 1, 3) := by decide +kernel
theorem dX0_hasAnyOf_27 : decode cX0_hasAnyOf 27 = .ok (.goto (-25), 3) := by decide +kernel
theorem dX0_hasAnyOf_30 : decode cX0_hasAnyOf 30 = .ok (.iconst 0, 1) := by decide +kernel
theorem dX0_hasAnyOf_31 : decode cX0_hasAnyOf 31 = .ok (.ireturn, 1) := by decide +kernel
theorem dX0_delay_0 : decode cX0_delay 0 = .ok (.aload_n 0, 1) := by decide +kernel
theorem dX0_delay_1 : decode cX0_delay 1 = .ok (.getfield 15, 3) := by decide +kernel
theorem dX0_delay_4 : decode cX0_delay 4 = .ok (.lookupswitch 53 #[(1, 28), (3, 48)], 28) := by decide +kernel
theorem dX0_delay_32 : decode cX0_delay 32 = .ok (.iload_n 1, 1) := by decide +kernel
theorem dX0_delay_33 : decode cX0_delay 33 = .ok (.iload_n 2, 1) := by decide +kernel
theorem dX0_delay_34 : decode cX0_delay 34 = .ok (.if_icmp .gt 9, 3) := by decide +kernel
theorem dX0_delay_37 : decode cX0_delay 37 = .ok (.iload_n 2, 1) := by decide +kernel
theorem dX0_delay_38 : decode cX0_delay 38 = .ok (.iload_n 1, 1) := by decide +kernel
theorem dX0_delay_39 : decode cX0_delay 39 = .ok (.isub, 1) := by decide +kernel
theorem dX0_delay_40 : decode cX0_delay 40 = .ok (.goto 11, 3) := by decide +kernel
theorem dX0_delay_43 : decode cX0_delay 43 = .ok (.iload_n 2, 1) := by decide +kernel
theorem dX0_delay_44 : decode cX0_delay 44 = .ok (.iload_n 1, 1) := by decide +kernel
theorem dX0_delay_45 : decode cX0_delay 45 = .ok (.isub, 1) := by decide +kernel
theorem dX0_delay_46 : decode cX0_delay 46 = .ok (.aload_n 0, 1) := by decide +kernel
theorem dX0_delay_47 : decode cX0_delay 47 = .ok (.getfield 22, 3) := by decide +kernel
theorem dX0_delay_50 : decode cX0_delay 50 = .ok (.iadd, 1) := by decide +kernel
theorem dX0_delay_51 : decode cX0_delay 51 = .ok (.ireturn, 1) := by decide +kernel
theorem dX0_delay_52 : decode cX0_delay 52 = .ok (.aload_n 0, 1) := by decide +kernel
theorem dX0_delay_53 : decode cX0_delay 53 = .ok (.getfield 19, 3) := by decide +kernel
theorem dX0_delay_56 : decode cX0_delay 56 = .ok (.ireturn, 1) := by decide +kernel
theorem dX0_delay_57 : decode cX0_delay 57 = .ok (.iconst 0, 1) := by decide +kernel
theorem dX0_delay_58 : decode cX0_delay 58 = .ok (.ireturn, 1) := by decide +kernel
theorem dX1_init_0 : decode cX1_init 0 = .ok (.aload_n 0, 1) := by decide +kernel
theorem dX1_init_1 : decode cX1_init 1 = .ok (.invokespecial 3, 3) := by decide +kernel
theorem dX1_init_4 : decode cX1_init 4 = .ok (.aload_n 0, 1) := by decide +kernel
theorem dX1_init_5 : decode cX1_init 5 = .ok (.iconst 4, 1) := by decide +kernel
theorem dX1_init_6 : decode cX1_init 6 = .ok (.newarray .int, 2) := by decide +kernel
theorem dX1_init_8 : decode cX1_init 8 = .ok (.putfield 11, 3) := by decide +kernel
theorem dX1_init_11 : decode cX1_init 11 = .ok (.return_, 1) := by decide +kernel
theorem dX1_size_0 : decode cX1_size 0 = .ok (.aload_n 0, 1) := by decide +kernel
theorem dX1_size_1 : decode cX1_size 1 = .ok (.getfield 15, 3) := by decide +kernel
theorem dX1_size_4 : decode cX1_size 4 = .ok (.ireturn, 1) := by decide +kernel
theorem dX1_at_0 : decode cX1_at 0 = .ok (.iload_n 1, 1) := by decide +kernel
theorem dX1_at_1 : decode cX1_at 1 = .ok (.ifCond .lt 25, 3) := by decide +kernel
theorem dX1_at_4 : decode cX1_at 4 = .ok (.iload_n 1, 1) := by decide +kernel
theorem dX1_at_5 : decode cX1_at 5 = .ok (.aload_n 0, 1) := by decide +kernel
theorem dX1_at_6 : decode cX1_at 6 = .ok (.getfield 15, 3) := by decide +kernel
theorem dX1_at_9 : decode cX1_at 9 = .ok (.if_icmp .ge 17, 3) := by decide +kernel
theorem dX1_at_12 : decode cX1_at 12 = .ok (.iload_n 1, 1) := by decide +kernel
theorem dX1_at_13 : decode cX1_at 13 = .ok (.iconst 4, 1) := by decide +kernel
theorem dX1_at_14 : decode cX1_at 14 = .ok (.if_icmp .ge 12, 3) := by decide +kernel
theorem dX1_at_17 : decode cX1_at 17 = .ok (.aload_n 0, 1) := by decide +kernel
theorem dX1_at_18 : decode cX1_at 18 = .ok (.getfield 11, 3) := by decide +kernel
theorem dX1_at_21 : decode cX1_at 21 = .ok (.iload_n 1, 1) := by decide +kernel
theorem dX1_at_22 : decode cX1_at 22 = .ok (.iaload, 1) := by decide +kernel
theorem dX1_at_23 : decode cX1_at 23 = .ok (.goto 4, 3) := by decide +kernel
theorem dX1_at_26 : decode cX1_at 26 = .ok (.iconst (-1), 1) := by decide +kernel
theorem dX1_at_27 : decode cX1_at 27 = .ok (.ireturn, 1) := by decide +kernel
theorem dX1_add_0 : decode cX1_add 0 = .ok (.iconst 0, 1) := by decide +kernel
theorem dX1_add_1 : decode cX1_add 1 = .ok (.istore_n 2, 1) := by decide +kernel
theorem dX1_add_2 : decode cX1_add 2 = .ok (.iload_n 2, 1) := by decide +kernel
theorem dX1_add_3 : decode cX1_add 3 = .ok (.aload_n 0, 1) := by decide +kernel
theorem dX1_add_4 : decode cX1_add 4 = .ok (.getfield 15, 3) := by decide +kernel
theorem dX1_add_7 : decode cX1_add 7 = .ok (.if_icmp .ge 21, 3) := by decide +kernel
theorem dX1_add_10 : decode cX1_add 10 = .ok (.aload_n 0, 1) := by decide +kernel
theorem dX1_add_11 : decode cX1_add 11 = .ok (.iload_n 2, 1) := by decide +kernel
theorem dX1_add_12 : decode cX1_add 12 = .ok (.invokevirtual 19, 3) := by decide +kernel
theorem dX1_add_15 : decode cX1_add 15 = .ok (.iload_n 1, 1) := by decide +kernel
theorem dX1_add_16 : decode cX1_add 16 = .ok (.if_icmp .ne 6, 3) := by decide +kernel
theorem dX1_add_19 : decode cX1_add 19 = .ok (.bipush (-103), 2) := by decide +kernel
theorem dX1_add_21 : decode cX1_add 21 = .ok (.ireturn, 1) := by decide +kernel
theorem dX1_add_22 : decode cX1_add 22 = .ok (.iinc 2 1, 3) := by decide +kernel
theorem dX1_add_25 : decode cX1_add 25 = .ok (.goto (-23), 3) := by decide +kernel
theorem dX1_add_28 : decode cX1_add 28 = .ok (.aload_n 0, 1) := by decide +kernel
theorem dX1_add_29 : decode cX1_add 29 = .ok (.getfield 15, 3) := by decide +kernel
theorem dX1_add_32 : decode cX1_add 32 = .ok (.iconst 4, 1) := by decide +kernel
theorem dX1_add_33 : decode cX1_add 33 = .ok (.if_icmp .lt 6, 3) := by decide +kernel
theorem dX1_add_36 : decode cX1_add 36 = .ok (.bipush (-104), 2) := by decide +kernel
theorem dX1_add_38 : decode cX1_add 38 = .ok (.ireturn, 1) := by decide +kernel
theorem dX1_add_39 : decode cX1_add 39 = .ok (.aload_n 0, 1) := by decide +kernel
theorem dX1_add_40 : decode cX1_add 40 = .ok (.getfield 11, 3) := by decide +kernel
theorem dX1_add_43 : decode cX1_add 43 = .ok (.aload_n 0, 1) := by decide +kernel
theorem dX1_add_44 : decode cX1_add 44 = .ok (.getfield 15, 3) := by decide +kernel
theorem dX1_add_47 : decode cX1_add 47 = .ok (.iload_n 1, 1) := by decide +kernel
theorem dX1_add_48 : decode cX1_add 48 = .ok (.iastore, 1) := by decide +kernel
theorem dX1_add_49 : decode cX1_add 49 = .ok (.aload_n 0, 1) := by decide +kernel
theorem dX1_add_50 : decode cX1_add 50 = .ok (.dup, 1) := by decide +kernel
theorem dX1_add_51 : decode cX1_add 51 = .ok (.getfield 15, 3) := by decide +kernel
theorem dX1_add_54 : decode cX1_add 54 = .ok (.iconst 1, 1) := by decide +kernel
theorem dX1_add_55 : decode cX1_add 55 = .ok (.iadd, 1) := by decide +kernel
theorem dX1_add_56 : decode cX1_add 56 = .ok (.putfield 15, 3) := by decide +kernel
theorem dX1_add_59 : decode cX1_add 59 = .ok (.aload_n 0, 1) := by decide +kernel
theorem dX1_add_60 : decode cX1_add 60 = .ok (.getfield 15, 3) := by decide +kernel
theorem dX1_add_63 : decode cX1_add 63 = .ok (.ireturn, 1) := by decide +kernel
theorem dX1_copyFrom_0 : decode cX1_copyFrom 0 = .ok (.aload_n 1, 1) := by decide +kernel
theorem dX1_copyFrom_1 : decode cX1_copyFrom 1 = .ok (.getfield 11, 3) := by decide +kernel
theorem dX1_copyFrom_4 : decode cX1_copyFrom 4 = .ok (.iconst 0, 1) := by decide +kernel
theorem dX1_copyFrom_5 : decode cX1_copyFrom 5 = .ok (.aload_n 0, 1) := by decide +kernel
theorem dX1_copyFrom_6 : decode cX1_copyFrom 6 = .ok (.getfield 11, 3) := by decide +kernel
theorem dX1_copyFrom_9 : decode cX1_copyFrom 9 = .ok (.iconst 0, 1) := by decide +kernel
theorem dX1_copyFrom_10 : decode cX1_copyFrom 10 = .ok (.iconst 4, 1) := by decide +kernel
theorem dX1_copyFrom_11 : decode cX1_copyFrom 11 = .ok (.invokestatic 23, 3) := by decide +kernel
theorem dX1_copyFrom_14 : decode cX1_copyFrom 14 = .ok (.aload_n 0, 1) := by decide +kernel
theorem dX1_copyFrom_15 : decode cX1_copyFrom 15 = .ok (.aload_n 1, 1) := by decide +kernel
theorem dX1_copyFrom_16 : decode cX1_copyFrom 16 = .ok (.getfield 15, 3) := by decide +kernel
theorem dX1_copyFrom_19 : decode cX1_copyFrom 19 = .ok (.putfield 15, 3) := by decide +kernel
theorem dX1_copyFrom_22 : decode cX1_copyFrom 22 = .ok (.return_, 1) := by decide +kernel
theorem dX1_weight_0 : decode cX1_weight 0 = .ok (.aload_n 0, 1) := by decide +kernel
theorem dX1_weight_1 : decode cX1_weight 1 = .ok (.iload_n 1, 1) := by decide +kernel
theorem dX1_weight_2 : decode cX1_weight 2 = .ok (.invokevirtual 19, 3) := by decide +kernel
theorem dX1_weight_5 : decode cX1_weight 5 = .ok (.istore 4, 2) := by decide +kernel
theorem dX1_weight_7 : decode cX1_weight 7 = .ok (.iload_n 2, 1) := by decide +kernel
theorem dX1_weight_8 : decode cX1_weight 8 = .ok (.iload 4, 2) := by decide +kernel
theorem dX1_weight_10 : decode cX1_weight 10 = .ok (.iconst (-1), 1) := by decide +kernel
theorem dX1_weight_11 : decode cX1_weight 11 = .ok (.ixor, 1) := by decide +kernel
theorem dX1_weight_12 : decode cX1_weight 12 = .ok (.iand, 1) := by decide +kernel
theorem dX1_weight_13 : decode cX1_weight 13 = .ok (.ifCond .eq 5, 3) := by decide +kernel
theorem dX1_weight_16 : decode cX1_weight 16 = .ok (.lconst 0, 1) := by decide +kernel
theorem dX1_weight_17 : decode cX1_weight 17 = .ok (.lreturn, 1) := by decide +kernel
theorem dX1_weight_18 : decode cX1_weight 18 = .ok (.iload 4, 2) := by decide +kernel
theorem dX1_weight_20 : decode cX1_weight 20 = .ok (.iload_n 2, 1) := by decide +kernel
theorem dX1_weight_21 : decode cX1_weight 21 = .ok (.iconst (-1), 1) := by decide +kernel
theorem dX1_weight_22 : decode cX1_weight 22 = .ok (.ixor, 1) := by decide +kernel
theorem dX1_weight_23 : decode cX1_weight 23 = .ok (.iand, 1) := by decide +kernel
theorem dX1_weight_24 : decode cX1_weight 24 = .ok (.invokestatic 29, 3) := by decide +kernel
theorem dX1_weight_27 : decode cX1_weight 27 = .ok (.istore 5, 2) := by decide +kernel
theorem dX1_weight_29 : decode cX1_weight 29 = .ok (.iload_n 3, 1) := by decide +kernel
theorem dX1_weight_30 : decode cX1_weight 30 = .ok (.i2l, 1) := by decide +kernel
theorem dX1_weight_31 : decode cX1_weight 31 = .ok (.iload 5, 2) := by decide +kernel
theorem dX1_weight_33 : decode cX1_weight 33 = .ok (.invokestatic 34, 3) := by decide +kernel
theorem dX1_weight_36 : decode cX1_weight 36 = .ok (.ldc2_w 38, 3) := by decide +kernel
theorem dX1_weight_39 : decode cX1_weight 39 = .ok (.bipush 8, 2) := by decide +kernel
theorem dX1_weight_41 : decode cX1_weight 41 = .ok (.iload 5, 2) := by decide +kernel
theorem dX1_weight_43 : decode cX1_weight 43 = .ok (.isub, 1) := by decide +kernel
theorem dX1_weight_44 : decode cX1_weight 44 = .ok (.invokestatic 34, 3) := by decide +kernel
theorem dX1_weight_47 : decode cX1_weight 47 = .ok (.lmul, 1) := by decide +kernel
theorem dX1_weight_48 : decode cX1_weight 48 = .ok (.lreturn, 1) := by decide +kernel
theorem dX1_weightOfAll_0 : decode cX1_weightOfAll 0 = .ok (.lconst 0, 1) := by decide +kernel
theorem dX1_weightOfAll_1 : decode cX1_weightOfAll 1 = .ok (.lstore_n 3, 1) := by decide +kernel
theorem dX1_weightOfAll_2 : decode cX1_weightOfAll 2 = .ok (.iconst 0, 1) := by decide +kernel
theorem dX1_weightOfAll_3 : decode cX1_weightOfAll 3 = .ok (.istore 5, 2) := by decide +kernel
theorem dX1_weightOfAll_5 : decode cX1_weightOfAll 5 = .ok (.iload 5, 2) := by decide +kernel
theorem dX1_weightOfAll_7 : decode cX1_weightOfAll 7 = .ok (.aload_n 0, 1) := by decide +kernel
theorem dX1_weightOfAll_8 : decode cX1_weightOfAll 8 = .ok (.getfield 15, 3) := by decide +kernel
theorem dX1_weightOfAll_11 : decode cX1_weightOfAll 11 = .ok (.if_icmp .ge 20, 3) := by decide +kernel
theorem dX1_weightOfAll_14 : decode cX1_weightOfAll 14 = .ok (.lload_n 3, 1) := by decide +kernel
theorem dX1_weightOfAll_15 : decode cX1_weightOfAll 15 = .ok (.aload_n 0, 1) := by decide +kernel
theorem dX1_weightOfAll_16 : decode cX1_weightOfAll 16 = .ok (.iload 5, 2) := by decide +kernel
theorem dX1_weightOfAll_18 : decode cX1_weightOfAll 18 = .ok (.iload_n 1, 1) := by decide +kernel
theorem dX1_weightOfAll_19 : decode cX1_weightOfAll 19 = .ok (.iload_n 2, 1) := by decide +kernel
theorem dX1_weightOfAll_20 : decode cX1_weightOfAll 20 = .ok (.invokevirtual 40, 3) := by decide +kernel
theorem dX1_weightOfAll_23 : decode cX1_weightOfAll 23 = .ok (.ladd, 1) := by decide +kernel
theorem dX1_weightOfAll_24 : decode cX1_weightOfAll 24 = .ok (.lstore_n 3, 1) := by decide +kernel
theorem dX1_weightOfAll_25 : decode cX1_weightOfAll 25 = .ok (.iinc 5 1, 3) := by decide +kernel
theorem dX1_weightOfAll_28 : decode cX1_weightOfAll 28 = .ok (.goto (-23), 3) := by decide +kernel
theorem dX1_weightOfAll_31 : decode cX1_weightOfAll 31 = .ok (.lload_n 3, 1) := by decide +kernel
theorem dX1_weightOfAll_32 : decode cX1_weightOfAll 32 = .ok (.lreturn, 1) := by decide +kernel
theorem dX2_init_0 : decode cX2_init 0 = .ok (.aload_n 0, 1) := by decide +kernel
theorem dX2_init_1 : decode cX2_init 1 = .ok (.invokespecial 3, 3) := by decide +kernel
theorem dX2_init_4 : decode cX2_init 4 = .ok (.aload_n 0, 1) := by decide +kernel
theorem dX2_init_5 : decode cX2_init 5 = .ok (.bipush 8, 2) := by decide +kernel
theorem dX2_init_7 : decode cX2_init 7 = .ok (.newarray .int, 2) := by decide +kernel
theorem dX2_init_9 : decode cX2_init 9 = .ok (.putfield 11, 3) := by decide +kernel
theorem dX2_init_12 : decode cX2_init 12 = .ok (.aload_n 0, 1) := by decide +kernel
theorem dX2_init_13 : decode cX2_init 13 = .ok (.bipush 8, 2) := by decide +kernel
theorem dX2_init_15 : decode cX2_init 15 = .ok (.newarray .int, 2) := by decide +kernel
theorem dX2_init_17 : decode cX2_init 17 = .ok (.putfield 15, 3) := by decide +kernel
theorem dX2_init_20 : decode cX2_init 20 = .ok (.aload_n 0, 1) := by decide +kernel
theorem dX2_init_21 : decode cX2_init 21 = .ok (.bipush 8, 2) := by decide +kernel
theorem dX2_init_23 : decode cX2_init 23 = .ok (.newarray .int, 2) := by decide +kernel
theorem dX2_init_25 : decode cX2_init 25 = .ok (.putfield 18, 3) := by decide +kernel
theorem dX2_init_28 : decode cX2_init 28 = .ok (.aload_n 0, 1) := by decide +kernel
theorem dX2_init_29 : decode cX2_init 29 = .ok (.bipush 8, 2) := by decide +kernel
theorem dX2_init_31 : decode cX2_init 31 = .ok (.newarray .int, 2) := by decide +kernel
theorem dX2_init_33 : decode cX2_init 33 = .ok (.putfield 21, 3) := by decide +kernel
theorem dX2_init_36 : decode cX2_init 36 = .ok (.aload_n 0, 1) := by decide +kernel
theorem dX2_init_37 : decode cX2_init 37 = .ok (.iconst 4, 1) := by decide +kernel
theorem dX2_init_38 : decode cX2_init 38 = .ok (.putfield 24, 3) := by decide +kernel
theorem dX2_init_41 : decode cX2_init 41 = .ok (.return_, 1) := by decide +kernel
theorem dX2_size_0 : decode cX2_size 0 = .ok (.aload_n 0, 1) := by decide +kernel
theorem dX2_size_1 : decode cX2_size 1 = .ok (.getfield 24, 3) := by decide +kernel
theorem dX2_size_4 : decode cX2_size 4 = .ok (.ireturn, 1) := by decide +kernel
theorem dX2_winces_0 : decode cX2_winces 0 = .ok (.aload_n 0, 1) := by decide +kernel
theorem dX2_winces_1 : decode cX2_winces 1 = .ok (.getfield 28, 3) := by decide +kernel
theorem dX2_winces_4 : decode cX2_winces 4 = .ok (.ireturn, 1) := by decide +kernel
theorem dX2_gather_0 : decode cX2_gather 0 = .ok (.aload_n 0, 1) := by decide +kernel
theorem dX2_gather_1 : decode cX2_gather 1 = .ok (.iload_n 1, 1) := by decide +kernel
theorem dX2_gather_2 : decode cX2_gather 2 = .ok (.putfield 24, 3) := by decide +kernel
theorem dX2_gather_5 : decode cX2_gather 5 = .ok (.aload_n 0, 1) := by decide +kernel
theorem dX2_gather_6 : decode cX2_gather 6 = .ok (.iconst 0, 1) := by decide +kernel
theorem dX2_gather_7 : decode cX2_gather 7 = .ok (.putfield 28, 3) := by decide +kernel
theorem dX2_gather_10 : decode cX2_gather 10 = .ok (.return_, 1) := by decide +kernel
theorem dX2_add_0 : decode cX2_add 0 = .ok (.aload_n 0, 1) := by decide +kernel
theorem dX2_add_1 : decode cX2_add 1 = .ok (.getfield 28, 3) := by decide +kernel
theorem dX2_add_4 : decode cX2_add 4 = .ok (.bipush 8, 2) := by decide +kernel
theorem dX2_add_6 : decode cX2_add 6 = .ok (.if_icmp .lt 6, 3) := by decide +kernel
theorem dX2_add_9 : decode cX2_add 9 = .ok (.bipush (-104), 2) := by decide +kernel
theorem dX2_add_11 : decode cX2_add 11 = .ok (.ireturn, 1) := by decide +kernel
theorem dX2_add_12 : decode cX2_add 12 = .ok (.aload_n 0, 1) := by decide +kernel
theorem dX2_add_13 : decode cX2_add 13 = .ok (.getfield 11, 3) := by decide +kernel
theorem dX2_add_16 : decode cX2_add 16 = .ok (.aload_n 0, 1) := by decide +kernel
theorem dX2_add_17 : decode cX2_add 17 = .ok (.getfield 28, 3) := by decide +kernel
theorem dX2_add_20 : decode cX2_add 20 = .ok (.iload_n 1, 1) := by decide +kernel
theorem dX2_add_21 : decode cX2_add 21 = .ok (.iastore, 1) := by decide +kernel
theorem dX2_add_22 : decode cX2_add 22 = .ok (.aload_n 0, 1) := by decide +kernel
theorem dX2_add_23 : decode cX2_add 23 = .ok (.getfield 15, 3) := by decide +kernel
theorem dX2_add_26 : decode cX2_add 26 = .ok (.aload_n 0, 1) := by decide +kernel
theorem dX2_add_27 : decode cX2_add 27 = .ok (.getfield 28, 3) := by decide +kernel
theorem dX2_add_30 : decode cX2_add 30 = .ok (.iload_n 2, 1) := by decide +kernel
theorem dX2_add_31 : decode cX2_add 31 = .ok (.iastore, 1) := by decide +kernel
theorem dX2_add_32 : decode cX2_add 32 = .ok (.aload_n 0, 1) := by decide +kernel
theorem dX2_add_33 : decode cX2_add 33 = .ok (.dup, 1) := by decide +kernel
theorem dX2_add_34 : decode cX2_add 34 = .ok (.getfield 28, 3) := by decide +kernel
theorem dX2_add_37 : decode cX2_add 37 = .ok (.iconst 1, 1) := by decide +kernel
theorem dX2_add_38 : decode cX2_add 38 = .ok (.iadd, 1) := by decide +kernel
theorem dX2_add_39 : decode cX2_add 39 = .ok (.putfield 28, 3) := by decide +kernel
theorem dX2_add_42 : decode cX2_add 42 = .ok (.aload_n 0, 1) := by decide +kernel
theorem dX2_add_43 : decode cX2_add 43 = .ok (.getfield 28, 3) := by decide +kernel
theorem dX2_add_46 : decode cX2_add 46 = .ok (.ireturn, 1) := by decide +kernel
theorem dX2_copyFrom_0 : decode cX2_copyFrom 0 = .ok (.aload_n 1, 1) := by decide +kernel
theorem dX2_copyFrom_1 : decode cX2_copyFrom 1 = .ok (.getfield 11, 3) := by decide +kernel
theorem dX2_copyFrom_4 : decode cX2_copyFrom 4 = .ok (.iconst 0, 1) := by decide +kernel
theorem dX2_copyFrom_5 : decode cX2_copyFrom 5 = .ok (.aload_n 0, 1) := by decide +kernel
theorem dX2_copyFrom_6 : decode cX2_copyFrom 6 = .ok (.getfield 11, 3) := by decide +kernel
theorem dX2_copyFrom_9 : decode cX2_copyFrom 9 = .ok (.iconst 0, 1) := by decide +kernel
theorem dX2_copyFrom_10 : decode cX2_copyFrom 10 = .ok (.bipush 8, 2) := by decide +kernel
theorem dX2_copyFrom_12 : decode cX2_copyFrom 12 = .ok (.invokestatic 31, 3) := by decide +kernel
theorem dX2_copyFrom_15 : decode cX2_copyFrom 15 = .ok (.aload_n 1, 1) := by decide +kernel
theorem dX2_copyFrom_16 : decode cX2_copyFrom 16 = .ok (.getfield 15, 3) := by decide +kernel
theorem dX2_copyFrom_19 : decode cX2_copyFrom 19 = .ok (.iconst 0, 1) := by decide +kernel
theorem dX2_copyFrom_20 : decode cX2_copyFrom 20 = .ok (.aload_n 0, 1) := by decide +kernel
theorem dX2_copyFrom_21 : decode cX2_copyFrom 21 = .ok (.getfield 15, 3) := by decide +kernel
theorem dX2_copyFrom_24 : decode cX2_copyFrom 24 = .ok (.iconst 0, 1) := by decide +kernel
theorem dX2_copyFrom_25 : decode cX2_copyFrom 25 = .ok (.bipush 8, 2) := by decide +kernel
theorem dX2_copyFrom_27 : decode cX2_copyFrom 27 = .ok (.invokestatic 31, 3) := by decide +kernel
theorem dX2_copyFrom_30 : decode cX2_copyFrom 30 = .ok (.aload_n 0, 1) := by decide +kernel
theorem dX2_copyFrom_31 : decode cX2_copyFrom 31 = .ok (.aload_n 1, 1) := by decide +kernel
theorem dX2_copyFrom_32 : decode cX2_copyFrom 32 = .ok (.getfield 24, 3) := by decide +kernel
theorem dX2_copyFrom_35 : decode cX2_copyFrom 35 = .ok (.putfield 24, 3) := by decide +kernel
theorem dX2_copyFrom_38 : decode cX2_copyFrom 38 = .ok (.aload_n 0, 1) := by decide +kernel
theorem dX2_copyFrom_39 : decode cX2_copyFrom 39 = .ok (.aload_n 1, 1) := by decide +kernel
theorem dX2_copyFrom_40 : decode cX2_copyFrom 40 = .ok (.getfield 28, 3) := by decide +kernel
theorem dX2_copyFrom_43 : decode cX2_copyFrom 43 = .ok (.putfield 28, 3) := by decide +kernel
theorem dX2_copyFrom_46 : decode cX2_copyFrom 46 = .ok (.return_, 1) := by decide +kernel
theorem dX2_survey_0 : decode cX2_survey 0 = .ok (.iconst 1, 1) := by decide +kernel
theorem dX2_survey_1 : decode cX2_survey 1 = .ok (.aload_n 0, 1) := by decide +kernel
theorem dX2_survey_2 : decode cX2_survey 2 = .ok (.getfield 24, 3) := by decide +kernel
theorem dX2_survey_5 : decode cX2_survey 5 = .ok (.ishl, 1) := by decide +kernel
theorem dX2_survey_6 : decode cX2_survey 6 = .ok (.iconst 1, 1) := by decide +kernel
theorem dX2_survey_7 : decode cX2_survey 7 = .ok (.isub, 1) := by decide +kernel
theorem dX2_survey_8 : decode cX2_survey 8 = .ok (.istore_n 1, 1) := by decide +kernel
theorem dX2_survey_9 : decode cX2_survey 9 = .ok (.aload_n 0, 1) := by decide +kernel
theorem dX2_survey_10 : decode cX2_survey 10 = .ok (.getfield 18, 3) := by decide +kernel
theorem dX2_survey_13 : decode cX2_survey 13 = .ok (.iload_n 1, 1) := by decide +kernel
theorem dX2_survey_14 : decode cX2_survey 14 = .ok (.invokestatic 37, 3) := by decide +kernel
theorem dX2_survey_17 : decode cX2_survey 17 = .ok (.aload_n 0, 1) := by decide +kernel
theorem dX2_survey_18 : decode cX2_survey 18 = .ok (.getfield 21, 3) := by decide +kernel
theorem dX2_survey_21 : decode cX2_survey 21 = .ok (.iconst 0, 1) := by decide +kernel
theorem dX2_survey_22 : decode cX2_survey 22 = .ok (.invokestatic 37, 3) := by decide +kernel
theorem dX2_survey_25 : decode cX2_survey 25 = .ok (.iconst 0, 1) := by decide +kernel
theorem dX2_survey_26 : decode cX2_survey 26 = .ok (.istore_n 2, 1) := by decide +kernel
theorem dX2_survey_27 : decode cX2_survey 27 = .ok (.iload_n 2, 1) := by decide +kernel
theorem dX2_survey_28 : decode cX2_survey 28 = .ok (.aload_n 0, 1) := by decide +kernel
theorem dX2_survey_29 : decode cX2_survey 29 = .ok (.getfield 28, 3) := by decide +kernel
theorem dX2_survey_32 : decode cX2_survey 32 = .ok (.if_icmp .ge 35, 3) := by decide +kernel
theorem dX2_survey_35 : decode cX2_survey 35 = .ok (.iload_n 2, 1) := by decide +kernel
theorem dX2_survey_36 : decode cX2_survey 36 = .ok (.bipush 8, 2) := by decide +kernel
theorem dX2_survey_38 : decode cX2_survey 38 = .ok (.if_icmp .ge 29, 3) := by decide +kernel
theorem dX2_survey_41 : decode cX2_survey 41 = .ok (.aload_n 0, 1) := by decide +kernel
theorem dX2_survey_42 : decode cX2_survey 42 = .ok (.getfield 18, 3) := by decide +kernel
theorem dX2_survey_45 : decode cX2_survey 45 = .ok (.aload_n 0, 1) := by decide +kernel
theorem dX2_survey_46 : decode cX2_survey 46 = .ok (.getfield 11, 3) := by decide +kernel
theorem dX2_survey_49 : decode cX2_survey 49 = .ok (.iload_n 2, 1) := by decide +kernel
theorem dX2_survey_50 : decode cX2_survey 50 = .ok (.iaload, 1) := by decide +kernel
theorem dX2_survey_51 : decode cX2_survey 51 = .ok (.dup2, 1) := by decide +kernel
theorem dX2_survey_52 : decode cX2_survey 52 = .ok (.iaload, 1) := by decide +kernel
theorem dX2_survey_53 : decode cX2_survey 53 = .ok (.aload_n 0, 1) := by decide +kernel
theorem dX2_survey_54 : decode cX2_survey 54 = .ok (.getfield 15, 3) := by decide +kernel
theorem dX2_survey_57 : decode cX2_survey 57 = .ok (.iload_n 2, 1) := by decide +kernel
theorem dX2_survey_58 : decode cX2_survey 58 = .ok (.iaload, 1) := by decide +kernel
theorem dX2_survey_59 : decode cX2_survey 59 = .ok (.iand, 1) := by decide +kernel
theorem dX2_survey_60 : decode cX2_survey 60 = .ok (.iastore, 1) := by decide +kernel
theorem dX2_survey_61 : decode cX2_survey 61 = .ok (.iinc 2 1, 3) := by decide +kernel
theorem dX2_survey_64 : decode cX2_survey 64 = .ok (.goto (-37), 3) := by decide +kernel
theorem dX2_survey_67 : decode cX2_survey 67 = .ok (.aload_n 0, 1) := by decide +kernel
theorem dX2_survey_68 : decode cX2_survey 68 = .ok (.iload_n 1, 1) := by decide +kernel
theorem dX2_survey_69 : decode cX2_survey 69 = .ok (.aload_n 0, 1) := by decide +kernel
theorem dX2_survey_70 : decode cX2_survey 70 = .ok (.getfield 24, 3) := by decide +kernel
theorem dX2_survey_73 : decode cX2_survey 73 = .ok (.iconst 2, 1) := by decide +kernel
theorem dX2_survey_74 : decode cX2_survey 74 = .ok (.idiv, 1) := by decide +kernel
theorem dX2_survey_75 : decode cX2_survey 75 = .ok (.invokevirtual 43, 3) := by decide +kernel
theorem dX2_survey_78 : decode cX2_survey 78 = .ok (.ireturn, 1) := by decide +kernel
theorem dX2_onlyTwin_0 : decode cX2_onlyTwin 0 = .ok (.iload_n 1, 1) := by decide +kernel
theorem dX2_onlyTwin_1 : decode cX2_onlyTwin 1 = .ok (.ifCond .lt 24, 3) := by decide +kernel
theorem dX2_onlyTwin_4 : decode cX2_onlyTwin 4 = .ok (.iload_n 1, 1) := by decide +kernel
theorem dX2_onlyTwin_5 : decode cX2_onlyTwin 5 = .ok (.aload_n 0, 1) := by decide +kernel
theorem dX2_onlyTwin_6 : decode cX2_onlyTwin 6 = .ok (.getfield 24, 3) := by decide +kernel
theorem dX2_onlyTwin_9 : decode cX2_onlyTwin 9 = .ok (.if_icmp .ge 16, 3) := by decide +kernel
theorem dX2_onlyTwin_12 : decode cX2_onlyTwin 12 = .ok (.aload_n 0, 1) := by decide +kernel
theorem dX2_onlyTwin_13 : decode cX2_onlyTwin 13 = .ok (.getfield 21, 3) := by decide +kernel
theorem dX2_onlyTwin_16 : decode cX2_onlyTwin 16 = .ok (.iload_n 1, 1) := by decide +kernel
theorem dX2_onlyTwin_17 : decode cX2_onlyTwin 17 = .ok (.iaload, 1) := by decide +kernel
theorem dX2_onlyTwin_18 : decode cX2_onlyTwin 18 = .ok (.invokestatic 47, 3) := by decide +kernel
theorem dX2_onlyTwin_21 : decode cX2_onlyTwin 21 = .ok (.iconst 1, 1) := by decide +kernel
theorem dX2_onlyTwin_22 : decode cX2_onlyTwin 22 = .ok (.if_icmp .eq 5, 3) := by decide +kernel
theorem dX2_onlyTwin_25 : decode cX2_onlyTwin 25 = .ok (.iconst (-1), 1) := by decide +kernel
theorem dX2_onlyTwin_26 : decode cX2_onlyTwin 26 = .ok (.ireturn, 1) := by decide +kernel
theorem dX2_onlyTwin_27 : decode cX2_onlyTwin 27 = .ok (.aload_n 0, 1) := by decide +kernel
theorem dX2_onlyTwin_28 : decode cX2_onlyTwin 28 = .ok (.getfield 21, 3) := by decide +kernel
theorem dX2_onlyTwin_31 : decode cX2_onlyTwin 31 = .ok (.iload_n 1, 1) := by decide +kernel
theorem dX2_onlyTwin_32 : decode cX2_onlyTwin 32 = .ok (.iaload, 1) := by decide +kernel
theorem dX2_onlyTwin_33 : decode cX2_onlyTwin 33 = .ok (.invokestatic 53, 3) := by decide +kernel
theorem dX2_onlyTwin_36 : decode cX2_onlyTwin 36 = .ok (.ireturn, 1) := by decide +kernel
theorem dX2_pairUp_0 : decode cX2_pairUp 0 = .ok (.iload_n 2, 1) := by decide +kernel
theorem dX2_pairUp_1 : decode cX2_pairUp 1 = .ok (.ifCond .gt 5, 3) := by decide +kernel
theorem dX2_pairUp_4 : decode cX2_pairUp 4 = .ok (.iconst 1, 1) := by decide +kernel
theorem dX2_pairUp_5 : decode cX2_pairUp 5 = .ok (.ireturn, 1) := by decide +kernel
theorem dX2_pairUp_6 : decode cX2_pairUp 6 = .ok (.iload_n 1, 1) := by decide +kernel
theorem dX2_pairUp_7 : decode cX2_pairUp 7 = .ok (.invokestatic 53, 3) := by decide +kernel
theorem dX2_pairUp_10 : decode cX2_pairUp 10 = .ok (.istore_n 3, 1) := by decide +kernel
theorem dX2_pairUp_11 : decode cX2_pairUp 11 = .ok (.iconst 0, 1) := by decide +kernel
theorem dX2_pairUp_12 : decode cX2_pairUp 12 = .ok (.istore 4, 2) := by decide +kernel
theorem dX2_pairUp_14 : decode cX2_pairUp 14 = .ok (.iload_n 3, 1) := by decide +kernel
theorem dX2_pairUp_15 : decode cX2_pairUp 15 = .ok (.iconst 1, 1) := by decide +kernel
theorem dX2_pairUp_16 : decode cX2_pairUp 16 = .ok (.iadd, 1) := by decide +kernel
theorem dX2_pairUp_17 : decode cX2_pairUp 17 = .ok (.istore 5, 2) := by decide +kernel
theorem dX2_pairUp_19 : decode cX2_pairUp 19 = .ok (.iload 5, 2) := by decide +kernel
theorem dX2_pairUp_21 : decode cX2_pairUp 21 = .ok (.bipush 8, 2) := by decide +kernel
theorem dX2_pairUp_23 : decode cX2_pairUp 23 = .ok (.if_icmp .ge 87, 3) := by decide +kernel
theorem dX2_pairUp_26 : decode cX2_pairUp 26 = .ok (.iload_n 1, 1) := by decide +kernel
theorem dX2_pairUp_27 : decode cX2_pairUp 27 = .ok (.iload 5, 2) := by decide +kernel
theorem dX2_pairUp_29 : decode cX2_pairUp 29 = .ok (.invokestatic 56, 3) := by decide +kernel
theorem dX2_pairUp_32 : decode cX2_pairUp 32 = .ok (.ifCond .eq 72, 3) := by decide +kernel
theorem dX2_pairUp_35 : decode cX2_pairUp 35 = .ok (.aload_n 0, 1) := by decide +kernel
theorem dX2_pairUp_36 : decode cX2_pairUp 36 = .ok (.iload_n 3, 1) := by decide +kernel
theorem dX2_pairUp_37 : decode cX2_pairUp 37 = .ok (.iload 5, 2) := by decide +kernel
theorem dX2_pairUp_39 : decode cX2_pairUp 39 = .ok (.invokevirtual 60, 3) := by decide +kernel
theorem dX2_pairUp_42 : decode cX2_pairUp 42 = .ok (.ifCond .eq 62, 3) := by decide +kernel
theorem dX2_pairUp_45 : decode cX2_pairUp 45 = .ok (.aload_n 0, 1) := by decide +kernel
theorem dX2_pairUp_46 : decode cX2_pairUp 46 = .ok (.iload_n 1, 1) := by decide +kernel
theorem dX2_pairUp_47 : decode cX2_pairUp 47 = .ok (.iconst 1, 1) := by decide +kernel
theorem dX2_pairUp_48 : decode cX2_pairUp 48 = .ok (.iload_n 3, 1) := by decide +kernel
theorem dX2_pairUp_49 : decode cX2_pairUp 49 = .ok (.ishl, 1) := by decide +kernel
theorem dX2_pairUp_50 : decode cX2_pairUp 50 = .ok (.iconst 1, 1) := by decide +kernel
theorem dX2_pairUp_51 : decode cX2_pairUp 51 = .ok (.iload 5, 2) := by decide +kernel
theorem dX2_pairUp_53 : decode cX2_pairUp 53 = .ok (.ishl, 1) := by decide +kernel
theorem dX2_pairUp_54 : decode cX2_pairUp 54 = .ok (.ior, 1) := by decide +kernel
theorem dX2_pairUp_55 : decode cX2_pairUp 55 = .ok (.iconst (-1), 1) := by decide +kernel
theorem dX2_pairUp_56 : decode cX2_pairUp 56 = .ok (.ixor, 1) := by decide +kernel
theorem dX2_pairUp_57 : decode cX2_pairUp 57 = .ok (.iand, 1) := by decide +kernel
theorem dX2_pairUp_58 : decode cX2_pairUp 58 = .ok (.iload_n 2, 1) := by decide +kernel
theorem dX2_pairUp_59 : decode cX2_pairUp 59 = .ok (.iconst 1, 1) := by decide +kernel
theorem dX2_pairUp_60 : decode cX2_pairUp 60 = .ok (.isub, 1) := by decide +kernel
theorem dX2_pairUp_61 : decode cX2_pairUp 61 = .ok (.invokevirtual 43, 3) := by decide +kernel
theorem dX2_pairUp_64 : decode cX2_pairUp 64 = .ok (.istore 6, 2) := by decide +kernel
theorem dX2_pairUp_66 : decode cX2_pairUp 66 = .ok (.iload 6, 2) := by decide +kernel
theorem dX2_pairUp_68 : decode cX2_pairUp 68 = .ok (.ifCond .le 29, 3) := by decide +kernel
theorem dX2_pairUp_71 : decode cX2_pairUp 71 = .ok (.aload_n 0, 1) := by decide +kernel
theorem dX2_pairUp_72 : decode cX2_pairUp 72 = .ok (.getfield 21, 3) := by decide +kernel
theorem dX2_pairUp_75 : decode cX2_pairUp 75 = .ok (.iload_n 3, 1) := by decide +kernel
theorem dX2_pairUp_76 : decode cX2_pairUp 76 = .ok (.dup2, 1) := by decide +kernel
theorem dX2_pairUp_77 : decode cX2_pairUp 77 = .ok (.iaload, 1) := by decide +kernel
theorem dX2_pairUp_78 : decode cX2_pairUp 78 = .ok (.iconst 1, 1) := by decide +kernel
theorem dX2_pairUp_79 : decode cX2_pairUp 79 = .ok (.iload 5, 2) := by decide +kernel
theorem dX2_pairUp_81 : decode cX2_pairUp 81 = .ok (.ishl, 1) := by decide +kernel
theorem dX2_pairUp_82 : decode cX2_pairUp 82 = .ok (.ior, 1) := by decide +kernel
theorem dX2_pairUp_83 : decode cX2_pairUp 83 = .ok (.iastore, 1) := by decide +kernel
theorem dX2_pairUp_84 : decode cX2_pairUp 84 = .ok (.aload_n 0, 1) := by decide +kernel
theorem dX2_pairUp_85 : decode cX2_pairUp 85 = .ok (.getfield 21, 3) := by decide +kernel
theorem dX2_pairUp_88 : decode cX2_pairUp 88 = .ok (.iload 5, 2) := by decide +kernel
theorem dX2_pairUp_90 : decode cX2_pairUp 90 = .ok (.dup2, 1) := by decide +kernel
theorem dX2_pairUp_91 : decode cX2_pairUp 91 = .ok (.iaload, 1) := by decide +kernel
theorem dX2_pairUp_92 : decode cX2_pairUp 92 = .ok (.iconst 1, 1) := by decide +kernel
theorem dX2_pairUp_93 : decode cX2_pairUp 93 = .ok (.iload_n 3, 1) := by decide +kernel
theorem dX2_pairUp_94 : decode cX2_pairUp 94 = .ok (.ishl, 1) := by decide +kernel
theorem dX2_pairUp_95 : decode cX2_pairUp 95 = .ok (.ior, 1) := by decide +kernel
theorem dX2_pairUp_96 : decode cX2_pairUp 96 = .ok (.iastore, 1) := by decide +kernel
theorem dX2_pairUp_97 : decode cX2_pairUp 97 = .ok (.iload 4, 2) := by decide +kernel
theorem dX2_pairUp_99 : decode cX2_pairUp 99 = .ok (.iload 6, 2) := by decide +kernel
theorem dX2_pairUp_101 : decode cX2_pairUp 101 = .ok (.iadd, 1) := by decide +kernel
theorem dX2_pairUp_102 : decode cX2_pairUp 102 = .ok (.istore 4, 2) := by decide +kernel
theorem dX2_pairUp_104 : decode cX2_pairUp 104 = .ok (.iinc 5 1, 3) := by decide +kernel
theorem dX2_pairUp_107 : decode cX2_pairUp 107 = .ok (.goto (-88), 3) := by decide +kernel
theorem dX2_pairUp_110 : decode cX2_pairUp 110 = .ok (.iload 4, 2) := by decide +kernel
theorem dX2_pairUp_112 : decode cX2_pairUp 112 = .ok (.ireturn, 1) := by decide +kernel
theorem dX2_mayBeTwins_0 : decode cX2_mayBeTwins 0 = .ok (.aload_n 0, 1) := by decide +kernel
theorem dX2_mayBeTwins_1 : decode cX2_mayBeTwins 1 = .ok (.getfield 18, 3) := by decide +kernel
theorem dX2_mayBeTwins_4 : decode cX2_mayBeTwins 4 = .ok (.iload_n 1, 1) := by decide +kernel
theorem dX2_mayBeTwins_5 : decode cX2_mayBeTwins 5 = .ok (.iaload, 1) := by decide +kernel
theorem dX2_mayBeTwins_6 : decode cX2_mayBeTwins 6 = .ok (.iload_n 2, 1) := by decide +kernel
theorem dX2_mayBeTwins_7 : decode cX2_mayBeTwins 7 = .ok (.invokestatic 56, 3) := by decide +kernel
theorem dX2_mayBeTwins_10 : decode cX2_mayBeTwins 10 = .ok (.ifCond .eq 20, 3) := by decide +kernel
theorem dX2_mayBeTwins_13 : decode cX2_mayBeTwins 13 = .ok (.aload_n 0, 1) := by decide +kernel
theorem dX2_mayBeTwins_14 : decode cX2_mayBeTwins 14 = .ok (.getfield 18, 3) := by decide +kernel
theorem dX2_mayBeTwins_17 : decode cX2_mayBeTwins 17 = .ok (.iload_n 2, 1) := by decide +kernel
theorem dX2_mayBeTwins_18 : decode cX2_mayBeTwins 18 = .ok (.iaload, 1) := by decide +kernel
theorem dX2_mayBeTwins_19 : decode cX2_mayBeTwins 19 = .ok (.iload_n 1, 1) := by decide +kernel
theorem dX2_mayBeTwins_20 : decode cX2_mayBeTwins 20 = .ok (.invokestatic 56, 3) := by decide +kernel
theorem dX2_mayBeTwins_23 : decode cX2_mayBeTwins 23 = .ok (.ifCond .eq 7, 3) := by decide +kernel
theorem dX2_mayBeTwins_26 : decode cX2_mayBeTwins 26 = .ok (.iconst 1, 1) := by decide +kernel
theorem dX2_mayBeTwins_27 : decode cX2_mayBeTwins 27 = .ok (.goto 4, 3) := by decide +kernel
theorem dX2_mayBeTwins_30 : decode cX2_mayBeTwins 30 = .ok (.iconst 0, 1) := by decide +kernel
theorem dX2_mayBeTwins_31 : decode cX2_mayBeTwins 31 = .ok (.ireturn, 1) := by decide +kernel
theorem dX2_firstOf_0 : decode cX2_firstOf 0 = .ok (.iconst 0, 1) := by decide +kernel
theorem dX2_firstOf_1 : decode cX2_firstOf 1 = .ok (.istore_n 1, 1) := by decide +kernel
theorem dX2_firstOf_2 : decode cX2_firstOf 2 = .ok (.iload_n 1, 1) := by decide +kernel
theorem dX2_firstOf_3 : decode cX2_firstOf 3 = .ok (.bipush 7, 2) := by decide +kernel
theorem dX2_firstOf_5 : decode cX2_firstOf 5 = .ok (.if_icmp .ge 19, 3) := by decide +kernel
theorem dX2_firstOf_8 : decode cX2_firstOf 8 = .ok (.iload_n 0, 1) := by decide +kernel
theorem dX2_firstOf_9 : decode cX2_firstOf 9 = .ok (.iload_n 1, 1) := by decide +kernel
theorem dX2_firstOf_10 : decode cX2_firstOf 10 = .ok (.invokestatic 56, 3) := by decide +kernel
theorem dX2_firstOf_13 : decode cX2_firstOf 13 = .ok (.ifCond .eq 5, 3) := by decide +kernel
theorem dX2_firstOf_16 : decode cX2_firstOf 16 = .ok (.iload_n 1, 1) := by decide +kernel
theorem dX2_firstOf_17 : decode cX2_firstOf 17 = .ok (.ireturn, 1) := by decide +kernel
theorem dX2_firstOf_18 : decode cX2_firstOf 18 = .ok (.iinc 1 1, 3) := by decide +kernel
theorem dX2_firstOf_21 : decode cX2_firstOf 21 = .ok (.goto (-19), 3) := by decide +kernel
theorem dX2_firstOf_24 : decode cX2_firstOf 24 = .ok (.bipush 7, 2) := by decide +kernel
theorem dX2_firstOf_26 : decode cX2_firstOf 26 = .ok (.ireturn, 1) := by decide +kernel
theorem dX3_init_0 : decode cX3_init 0 = .ok (.aload_n 0, 1) := by decide +kernel
theorem dX3_init_1 : decode cX3_init 1 = .ok (.invokespecial 3, 3) := by decide +kernel
theorem dX3_init_4 : decode cX3_init 4 = .ok (.aload_n 0, 1) := by decide +kernel
theorem dX3_init_5 : decode cX3_init 5 = .ok (.new 9, 3) := by decide +kernel
theorem dX3_init_8 : decode cX3_init 8 = .ok (.dup, 1) := by decide +kernel
theorem dX3_init_9 : decode cX3_init 9 = .ok (.invokespecial 11, 3) := by decide +kernel
theorem dX3_init_12 : decode cX3_init 12 = .ok (.putfield 12, 3) := by decide +kernel
theorem dX3_init_15 : decode cX3_init 15 = .ok (.aload_n 0, 1) := by decide +kernel
theorem dX3_init_16 : decode cX3_init 16 = .ok (.bipush 10, 2) := by decide +kernel
theorem dX3_init_18 : decode cX3_init 18 = .ok (.newarray .int, 2) := by decide +kernel
theorem dX3_init_20 : decode cX3_init 20 = .ok (.putfield 18, 3) := by decide +kernel
theorem dX3_init_23 : decode cX3_init 23 = .ok (.aload_n 0, 1) := by decide +kernel
theorem dX3_init_24 : decode cX3_init 24 = .ok (.new 22, 3) := by decide +kernel
theorem dX3_init_27 : decode cX3_init 27 = .ok (.dup, 1) := by decide +kernel
theorem dX3_init_28 : decode cX3_init 28 = .ok (.invokespecial 24, 3) := by decide +kernel
theorem dX3_init_31 : decode cX3_init 31 = .ok (.putfield 25, 3) := by decide +kernel
theorem dX3_init_34 : decode cX3_init 34 = .ok (.aload_n 0, 1) := by decide +kernel
theorem dX3_init_35 : decode cX3_init 35 = .ok (.new 29, 3) := by decide +kernel
theorem dX3_init_38 : decode cX3_init 38 = .ok (.dup, 1) := by decide +kernel
theorem dX3_init_39 : decode cX3_init 39 = .ok (.invokespecial 31, 3) := by decide +kernel
theorem dX3_init_42 : decode cX3_init 42 = .ok (.putfield 32, 3) := by decide +kernel
theorem dX3_init_45 : decode cX3_init 45 = .ok (.return_, 1) := by decide +kernel
theorem dX3_isGood_0 : decode cX3_isGood 0 = .ok (.aload_n 0, 1) := by decide +kernel
theorem dX3_isGood_1 : decode cX3_isGood 1 = .ok (.getfield 36, 3) := by decide +kernel
theorem dX3_isGood_4 : decode cX3_isGood 4 = .ok (.ireturn, 1) := by decide +kernel
theorem dX3_spoil_0 : decode cX3_spoil 0 = .ok (.aload_n 0, 1) := by decide +kernel
theorem dX3_spoil_1 : decode cX3_spoil 1 = .ok (.iconst 0, 1) := by decide +kernel
theorem dX3_spoil_2 : decode cX3_spoil 2 = .ok (.putfield 36, 3) := by decide +kernel
theorem dX3_spoil_5 : decode cX3_spoil 5 = .ok (.return_, 1) := by decide +kernel
theorem dX3_keep_0 : decode cX3_keep 0 = .ok (.aload_n 0, 1) := by decide +kernel
theorem dX3_keep_1 : decode cX3_keep 1 = .ok (.getfield 12, 3) := by decide +kernel
theorem dX3_keep_4 : decode cX3_keep 4 = .ok (.aload_n 1, 1) := by decide +kernel
theorem dX3_keep_5 : decode cX3_keep 5 = .ok (.invokevirtual 40, 3) := by decide +kernel
theorem dX3_keep_8 : decode cX3_keep 8 = .ok (.aload_n 2, 1) := by decide +kernel
theorem dX3_keep_9 : decode cX3_keep 9 = .ok (.iconst 0, 1) := by decide +kernel
theorem dX3_keep_10 : decode cX3_keep 10 = .ok (.aload_n 0, 1) := by decide +kernel
theorem dX3_keep_11 : decode cX3_keep 11 = .ok (.getfield 18, 3) := by decide +kernel
theorem dX3_keep_14 : decode cX3_keep 14 = .ok (.iconst 0, 1) := by decide +kernel
theorem dX3_keep_15 : decode cX3_keep 15 = .ok (.bipush 10, 2) := by decide +kernel
theorem dX3_keep_17 : decode cX3_keep 17 = .ok (.invokestatic 44, 3) := by decide +kernel
theorem dX3_keep_20 : decode cX3_keep 20 = .ok (.aload_n 0, 1) := by decide +kernel
theorem dX3_keep_21 : decode cX3_keep 21 = .ok (.getfield 25, 3) := by decide +kernel
theorem dX3_keep_24 : decode cX3_keep 24 = .ok (.aload_n 3, 1) := by decide +kernel
theorem dX3_keep_25 : decode cX3_keep 25 = .ok (.invokevirtual 50, 3) := by decide +kernel
theorem dX3_keep_28 : decode cX3_keep 28 = .ok (.aload_n 0, 1) := by decide +kernel
theorem dX3_keep_29 : decode cX3_keep 29 = .ok (.getfield 32, 3) := by decide +kernel
theorem dX3_keep_32 : decode cX3_keep 32 = .ok (.aload 4, 2) := by decide +kernel
theorem dX3_keep_34 : decode cX3_keep 34 = .ok (.invokevirtual 53, 3) := by decide +kernel
theorem dX3_keep_37 : decode cX3_keep 37 = .ok (.aload_n 0, 1) := by decide +kernel
theorem dX3_keep_38 : decode cX3_keep 38 = .ok (.iconst 1, 1) := by decide +kernel
theorem dX3_keep_39 : decode cX3_keep 39 = .ok (.putfield 36, 3) := by decide +kernel
theorem dX3_keep_42 : decode cX3_keep 42 = .ok (.return_, 1) := by decide +kernel
theorem dX3_giveBack_0 : decode cX3_giveBack 0 = .ok (.aload_n 1, 1) := by decide +kernel
theorem dX3_giveBack_1 : decode cX3_giveBack 1 = .ok (.aload_n 0, 1) := by decide +kernel
theorem dX3_giveBack_2 : decode cX3_giveBack 2 = .ok (.getfield 12, 3) := by decide +kernel
theorem dX3_giveBack_5 : decode cX3_giveBack 5 = .ok (.invokevirtual 40, 3) := by decide +kernel
theorem dX3_giveBack_8 : decode cX3_giveBack 8 = .ok (.aload_n 0, 1) := by decide +kernel
theorem dX3_giveBack_9 : decode cX3_giveBack 9 = .ok (.getfield 18, 3) := by decide +kernel
theorem dX3_giveBack_12 : decode cX3_giveBack 12 = .ok (.iconst 0, 1) := by decide +kernel
theorem dX3_giveBack_13 : decode cX3_giveBack 13 = .ok (.aload_n 2, 1) := by decide +kernel
theorem dX3_giveBack_14 : decode cX3_giveBack 14 = .ok (.iconst 0, 1) := by decide +kernel
theorem dX3_giveBack_15 : decode cX3_giveBack 15 = .ok (.bipush 10, 2) := by decide +kernel
theorem dX3_giveBack_17 : decode cX3_giveBack 17 = .ok (.invokestatic 44, 3) := by decide +kernel
theorem dX3_giveBack_20 : decode cX3_giveBack 20 = .ok (.aload_n 3, 1) := by decide +kernel
theorem dX3_giveBack_21 : decode cX3_giveBack 21 = .ok (.aload_n 0, 1) := by decide +kernel
theorem dX3_giveBack_22 : decode cX3_giveBack 22 = .ok (.getfield 25, 3) := by decide +kernel
theorem dX3_giveBack_25 : decode cX3_giveBack 25 = .ok (.invokevirtual 50, 3) := by decide +kernel
theorem dX3_giveBack_28 : decode cX3_giveBack 28 = .ok (.aload 4, 2) := by decide +kernel
theorem dX3_giveBack_30 : decode cX3_giveBack 30 = .ok (.aload_n 0, 1) := by decide +kernel
theorem dX3_giveBack_31 : decode cX3_giveBack 31 = .ok (.getfield 32, 3) := by decide +kernel
theorem dX3_giveBack_34 : decode cX3_giveBack 34 = .ok (.invokevirtual 53, 3) := by decide +kernel
theorem dX3_giveBack_37 : decode cX3_giveBack 37 = .ok (.return_, 1) := by decide +kernel
theorem dX4_init_0 : decode cX4_init 0 = .ok (.aload_n 0, 1) := by decide +kernel
theorem dX4_init_1 : decode cX4_init 1 = .ok (.invokespecial 3, 3) := by decide +kernel
theorem dX4_init_4 : decode cX4_init 4 = .ok (.aload_n 0, 1) := by decide +kernel
theorem dX4_init_5 : decode cX4_init 5 = .ok (.bipush 36, 2) := by decide +kernel
theorem dX4_init_7 : decode cX4_init 7 = .ok (.newarray .int, 2) := by decide +kernel
theorem dX4_init_9 : decode cX4_init 9 = .ok (.putfield 9, 3) := by decide +kernel
theorem dX4_init_12 : decode cX4_init 12 = .ok (.aload_n 0, 1) := by decide +kernel
theorem dX4_init_13 : decode cX4_init 13 = .ok (.new 15, 3) := by decide +kernel
theorem dX4_init_16 : decode cX4_init 16 = .ok (.dup, 1) := by decide +kernel
theorem dX4_init_17 : decode cX4_init 17 = .ok (.invokespecial 17, 3) := by decide +kernel
theorem dX4_init_20 : decode cX4_init 20 = .ok (.putfield 18, 3) := by decide +kernel
theorem dX4_init_23 : decode cX4_init 23 = .ok (.aload_n 0, 1) := by decide +kernel
theorem dX4_init_24 : decode cX4_init 24 = .ok (.new 15, 3) := by decide +kernel
theorem dX4_init_27 : decode cX4_init 27 = .ok (.dup, 1) := by decide +kernel
theorem dX4_init_28 : decode cX4_init 28 = .ok (.invokespecial 17, 3) := by decide +kernel
theorem dX4_init_31 : decode cX4_init 31 = .ok (.putfield 22, 3) := by decide +kernel
theorem dX4_init_34 : decode cX4_init 34 = .ok (.aload_n 0, 1) := by decide +kernel
theorem dX4_init_35 : decode cX4_init 35 = .ok (.iconst 4, 1) := by decide +kernel
theorem dX4_init_36 : decode cX4_init 36 = .ok (.newarray .int, 2) := by decide +kernel
theorem dX4_init_38 : decode cX4_init 38 = .ok (.putfield 25, 3) := by decide +kernel
theorem dX4_init_41 : decode cX4_init 41 = .ok (.return_, 1) := by decide +kernel
theorem dX4_setRoad_0 : decode cX4_setRoad 0 = .ok (.aload_n 0, 1) := by decide +kernel
theorem dX4_setRoad_1 : decode cX4_setRoad 1 = .ok (.getfield 9, 3) := by decide +kernel
theorem dX4_setRoad_4 : decode cX4_setRoad 4 = .ok (.iload_n 1, 1) := by decide +kernel
theorem dX4_setRoad_5 : decode cX4_setRoad 5 = .ok (.bipush 6, 2) := by decide +kernel
theorem dX4_setRoad_7 : decode cX4_setRoad 7 = .ok (.imul, 1) := by decide +kernel
theorem dX4_setRoad_8 : decode cX4_setRoad 8 = .ok (.iload_n 2, 1) := by decide +kernel
theorem dX4_setRoad_9 : decode cX4_setRoad 9 = .ok (.iadd, 1) := by decide +kernel
theorem dX4_setRoad_10 : decode cX4_setRoad 10 = .ok (.iaload, 1) := by decide +kernel
theorem dX4_setRoad_11 : decode cX4_setRoad 11 = .ok (.istore 4, 2) := by decide +kernel
theorem dX4_setRoad_13 : decode cX4_setRoad 13 = .ok (.aload_n 0, 1) := by decide +kernel
theorem dX4_setRoad_14 : decode cX4_setRoad 14 = .ok (.getfield 9, 3) := by decide +kernel
theorem dX4_setRoad_17 : decode cX4_setRoad 17 = .ok (.iload_n 1, 1) := by decide +kernel
theorem dX4_setRoad_18 : decode cX4_setRoad 18 = .ok (.bipush 6, 2) := by decide +kernel
theorem dX4_setRoad_20 : decode cX4_setRoad 20 = .ok (.imul, 1) := by decide +kernel
theorem dX4_setRoad_21 : decode cX4_setRoad 21 = .ok (.iload_n 2, 1) := by decide +kernel
theorem dX4_setRoad_22 : decode cX4_setRoad 22 = .ok (.iadd, 1) := by decide +kernel
theorem dX4_setRoad_23 : decode cX4_setRoad 23 = .ok (.iload_n 3, 1) := by decide +kernel
theorem dX4_setRoad_24 : decode cX4_setRoad 24 = .ok (.iastore, 1) := by decide +kernel
theorem dX4_setRoad_25 : decode cX4_setRoad 25 = .ok (.aload_n 0, 1) := by decide +kernel
theorem dX4_setRoad_26 : decode cX4_setRoad 26 = .ok (.getfield 9, 3) := by decide +kernel
theorem dX4_setRoad_29 : decode cX4_setRoad 29 = .ok (.iload_n 2, 1) := by decide +kernel
theorem dX4_setRoad_30 : decode cX4_setRoad 30 = .ok (.bipush 6, 2) := by decide +kernel
theorem dX4_setRoad_32 : decode cX4_setRoad 32 = .ok (.imul, 1) := by decide +kernel
theorem dX4_setRoad_33 : decode cX4_setRoad 33 = .ok (.iload_n 1, 1) := by decide +kernel
theorem dX4_setRoad_34 : decode cX4_setRoad 34 = .ok (.iadd, 1) := by decide +kernel
theorem dX4_setRoad_35 : decode cX4_setRoad 35 = .ok (.iload_n 3, 1) := by decide +kernel
theorem dX4_setRoad_36 : decode cX4_setRoad 36 = .ok (.iastore, 1) := by decide +kernel
theorem dX4_setRoad_37 : decode cX4_setRoad 37 = .ok (.iload 4, 2) := by decide +kernel
theorem dX4_setRoad_39 : decode cX4_setRoad 39 = .ok (.ireturn, 1) := by decide +kernel
theorem dX4_roads_0 : decode cX4_roads 0 = .ok (.iconst 0, 1) := by decide +kernel
theorem dX4_roads_1 : decode cX4_roads 1 = .ok (.istore_n 1, 1) := by decide +kernel
theorem dX4_roads_2 : decode cX4_roads 2 = .ok (.iconst 0, 1) := by decide +kernel
theorem dX4_roads_3 : decode cX4_roads 3 = .ok (.istore_n 2, 1) := by decide +kernel
theorem dX4_roads_4 : decode cX4_roads 4 = .ok (.iload_n 2, 1) := by decide +kernel
theorem dX4_roads_5 : decode cX4_roads 5 = .ok (.aload_n 0, 1) := by decide +kernel
theorem dX4_roads_6 : decode cX4_roads 6 = .ok (.getfield 9, 3) := by decide +kernel
theorem dX4_roads_9 : decode cX4_roads 9 = .ok (.arraylength, 1) := by decide +kernel
theorem dX4_roads_10 : decode cX4_roads 10 = .ok (.if_icmp .ge 21, 3) := by decide +kernel
theorem dX4_roads_13 : decode cX4_roads 13 = .ok (.aload_n 0, 1) := by decide +kernel
theorem dX4_roads_14 : decode cX4_roads 14 = .ok (.getfield 9, 3) := by decide +kernel
theorem dX4_roads_17 : decode cX4_roads 17 = .ok (.iload_n 2, 1) := by decide +kernel
theorem dX4_roads_18 : decode cX4_roads 18 = .ok (.iaload, 1) := by decide +kernel
theorem dX4_roads_19 : decode cX4_roads 19 = .ok (.ifCond .eq 6, 3) := by decide +kernel
theorem dX4_roads_22 : decode cX4_roads 22 = .ok (.iinc 1 1, 3) := by decide +kernel
theorem dX4_roads_25 : decode cX4_roads 25 = .ok (.iinc 2 1, 3) := by decide +kernel
theorem dX4_roads_28 : decode cX4_roads 28 = .ok (.goto (-24), 3) := by decide +kernel
theorem dX4_roads_31 : decode cX4_roads 31 = .ok (.iload_n 1, 1) := by decide +kernel
theorem dX4_roads_32 : decode cX4_roads 32 = .ok (.iconst 2, 1) := by decide +kernel
theorem dX4_roads_33 : decode cX4_roads 33 = .ok (.idiv, 1) := by decide +kernel
theorem dX4_roads_34 : decode cX4_roads 34 = .ok (.ireturn, 1) := by decide +kernel
theorem dX4_reckon_0 : decode cX4_reckon 0 = .ok (.aload_n 0, 1) := by decide +kernel
theorem dX4_reckon_1 : decode cX4_reckon 1 = .ok (.getfield 18, 3) := by decide +kernel
theorem dX4_reckon_4 : decode cX4_reckon 4 = .ok (.invokevirtual 28, 3) := by decide +kernel
theorem dX4_reckon_7 : decode cX4_reckon 7 = .ok (.iconst 0, 1) := by decide +kernel
theorem dX4_reckon_8 : decode cX4_reckon 8 = .ok (.istore 4, 2) := by decide +kernel
theorem dX4_reckon_10 : decode cX4_reckon 10 = .ok (.iload 4, 2) := by decide +kernel
theorem dX4_reckon_12 : decode cX4_reckon 12 = .ok (.bipush 6, 2) := by decide +kernel
theorem dX4_reckon_14 : decode cX4_reckon 14 = .ok (.if_icmp .ge 58, 3) := by decide +kernel
theorem dX4_reckon_17 : decode cX4_reckon 17 = .ok (.iconst 0, 1) := by decide +kernel
theorem dX4_reckon_18 : decode cX4_reckon 18 = .ok (.istore 5, 2) := by decide +kernel
theorem dX4_reckon_20 : decode cX4_reckon 20 = .ok (.iload 5, 2) := by decide +kernel
theorem dX4_reckon_22 : decode cX4_reckon 22 = .ok (.bipush 6, 2) := by decide +kernel
theorem dX4_reckon_24 : decode cX4_reckon 24 = .ok (.if_icmp .ge 42, 3) := by decide +kernel
theorem dX4_reckon_27 : decode cX4_reckon 27 = .ok (.aload_n 0, 1) := by decide +kernel
theorem dX4_reckon_28 : decode cX4_reckon 28 = .ok (.getfield 9, 3) := by decide +kernel
theorem dX4_reckon_31 : decode cX4_reckon 31 = .ok (.iload 4, 2) := by decide +kernel
theorem dX4_reckon_33 : decode cX4_reckon 33 = .ok (.bipush 6, 2) := by decide +kernel
theorem dX4_reckon_35 : decode cX4_reckon 35 = .ok (.imul, 1) := by decide +kernel
theorem dX4_reckon_36 : decode cX4_reckon 36 = .ok (.iload 5, 2) := by decide +kernel
theorem dX4_reckon_38 : decode cX4_reckon 38 = .ok (.iadd, 1) := by decide +kernel
theorem dX4_reckon_39 : decode cX4_reckon 39 = .ok (.iaload, 1) := by decide +kernel
theorem dX4_reckon_40 : decode cX4_reckon 40 = .ok (.istore 6, 2) := by decide +kernel
theorem dX4_reckon_42 : decode cX4_reckon 42 = .ok (.iload 6, 2) := by decide +kernel
theorem dX4_reckon_44 : decode cX4_reckon 44 = .ok (.ifCond .eq 16, 3) := by decide +kernel
theorem dX4_reckon_47 : decode cX4_reckon 47 = .ok (.aload_n 0, 1) := by decide +kernel
theorem dX4_reckon_48 : decode cX4_reckon 48 = .ok (.getfield 18, 3) := by decide +kernel
theorem dX4_reckon_51 : decode cX4_reckon 51 = .ok (.iload 4, 2) := by decide +kernel
theorem dX4_reckon_53 : decode cX4_reckon 53 = .ok (.iload 5, 2) := by decide +kernel
theorem dX4_reckon_55 : decode cX4_reckon 55 = .ok (.iload 6, 2) := by decide +kernel
theorem dX4_reckon_57 : decode cX4_reckon 57 = .ok (.invokevirtual 31, 3) := by decide +kernel
theorem dX4_reckon_60 : decode cX4_reckon 60 = .ok (.iinc 5 1, 3) := by decide +kernel
theorem dX4_reckon_63 : decode cX4_reckon 63 = .ok (.goto (-43), 3) := by decide +kernel
theorem dX4_reckon_66 : decode cX4_reckon 66 = .ok (.iinc 4 1, 3) := by decide +kernel
theorem dX4_reckon_69 : decode cX4_reckon 69 = .ok (.goto (-59), 3) := by decide +kernel
theorem dX4_reckon_72 : decode cX4_reckon 72 = .ok (.iconst 0, 1) := by decide +kernel
theorem dX4_reckon_73 : decode cX4_reckon 73 = .ok (.istore 4, 2) := by decide +kernel
theorem dX4_reckon_75 : decode cX4_reckon 75 = .ok (.iload 4, 2) := by decide +kernel
theorem dX4_reckon_77 : decode cX4_reckon 77 = .ok (.aload_n 1, 1) := by decide +kernel
theorem dX4_reckon_78 : decode cX4_reckon 78 = .ok (.invokevirtual 35, 3) := by decide +kernel
theorem dX4_reckon_81 : decode cX4_reckon 81 = .ok (.if_icmp .ge 47, 3) := by decide +kernel
theorem dX4_reckon_84 : decode cX4_reckon 84 = .ok (.aload_n 1, 1) := by decide +kernel
theorem dX4_reckon_85 : decode cX4_reckon 85 = .ok (.iload 4, 2) := by decide +kernel
theorem dX4_reckon_87 : decode cX4_reckon 87 = .ok (.invokevirtual 41, 3) := by decide +kernel
theorem dX4_reckon_90 : decode cX4_reckon 90 = .ok (.astore 5, 2) := by decide +kernel
theorem dX4_reckon_92 : decode cX4_reckon 92 = .ok (.aload 5, 2) := by decide +kernel
theorem dX4_reckon_94 : decode cX4_reckon 94 = .ok (.ifnull 28, 3) := by decide +kernel
theorem dX4_reckon_97 : decode cX4_reckon 97 = .ok (.aload 5, 2) := by decide +kernel
theorem dX4_reckon_99 : decode cX4_reckon 99 = .ok (.iconst 2, 1) := by decide +kernel
theorem dX4_reckon_100 : decode cX4_reckon 100 = .ok (.invokevirtual 45, 3) := by decide +kernel
theorem dX4_reckon_103 : decode cX4_reckon 103 = .ok (.ifCond .ne 19, 3) := by decide +kernel
theorem dX4_reckon_106 : decode cX4_reckon 106 = .ok (.aload 5, 2) := by decide +kernel
theorem dX4_reckon_108 : decode cX4_reckon 108 = .ok (.iload_n 3, 1) := by decide +kernel
theorem dX4_reckon_109 : decode cX4_reckon 109 = .ok (.invokevirtual 51, 3) := by decide +kernel
theorem dX4_reckon_112 : decode cX4_reckon 112 = .ok (.ifCond .ne 10, 3) := by decide +kernel
theorem dX4_reckon_115 : decode cX4_reckon 115 = .ok (.aload_n 0, 1) := by decide +kernel
theorem dX4_reckon_116 : decode cX4_reckon 116 = .ok (.aload 5, 2) := by decide +kernel
theorem dX4_reckon_118 : decode cX4_reckon 118 = .ok (.aload_n 2, 1) := by decide +kernel
theorem dX4_reckon_119 : decode cX4_reckon 119 = .ok (.invokevirtual 54, 3) := by decide +kernel
theorem dX4_reckon_122 : decode cX4_reckon 122 = .ok (.iinc 4 1, 3) := by decide +kernel
theorem dX4_reckon_125 : decode cX4_reckon 125 = .ok (.goto (-50), 3) := by decide +kernel
theorem dX4_reckon_128 : decode cX4_reckon 128 = .ok (.aload_n 0, 1) := by decide +kernel
theorem dX4_reckon_129 : decode cX4_reckon 129 = .ok (.getfield 18, 3) := by decide +kernel
theorem dX4_reckon_132 : decode cX4_reckon 132 = .ok (.invokevirtual 58, 3) := by decide +kernel
theorem dX4_reckon_135 : decode cX4_reckon 135 = .ok (.return_, 1) := by decide +kernel
theorem dX4_addPinches_0 : decode cX4_addPinches 0 = .ok (.iconst 0, 1) := by decide +kernel
theorem dX4_addPinches_1 : decode cX4_addPinches 1 = .ok (.istore_n 3, 1) := by decide +kernel
theorem dX4_addPinches_2 : decode cX4_addPinches 2 = .ok (.iload_n 3, 1) := by decide +kernel
theorem dX4_addPinches_3 : decode cX4_addPinches 3 = .ok (.aload_n 1, 1) := by decide +kernel
theorem dX4_addPinches_4 : decode cX4_addPinches 4 = .ok (.invokevirtual 61, 3) := by decide +kernel
theorem dX4_addPinches_7 : decode cX4_addPinches 7 = .ok (.if_icmp .ge 88, 3) := by decide +kernel
theorem dX4_addPinches_10 : decode cX4_addPinches 10 = .ok (.iconst 0, 1) := by decide +kernel
theorem dX4_addPinches_11 : decode cX4_addPinches 11 = .ok (.istore 4, 2) := by decide +kernel
theorem dX4_addPinches_13 : decode cX4_addPinches 13 = .ok (.iload 4, 2) := by decide +kernel
theorem dX4_addPinches_15 : decode cX4_addPinches 15 = .ok (.aload_n 1, 1) := by decide +kernel
theorem dX4_addPinches_16 : decode cX4_addPinches 16 = .ok (.invokevirtual 61, 3) := by decide +kernel
theorem dX4_addPinches_19 : decode cX4_addPinches 19 = .ok (.if_icmp .ge 70, 3) := by decide +kernel
theorem dX4_addPinches_22 : decode cX4_addPinches 22 = .ok (.aload_n 1, 1) := by decide +kernel
theorem dX4_addPinches_23 : decode cX4_addPinches 23 = .ok (.iload_n 3, 1) := by decide +kernel
theorem dX4_addPinches_24 : decode cX4_addPinches 24 = .ok (.invokevirtual 62, 3) := by decide +kernel
theorem dX4_addPinches_27 : decode cX4_addPinches 27 = .ok (.istore 5, 2) := by decide +kernel
theorem dX4_addPinches_29 : decode cX4_addPinches 29 = .ok (.aload_n 1, 1) := by decide +kernel
theorem dX4_addPinches_30 : decode cX4_addPinches 30 = .ok (.iload 4, 2) := by decide +kernel
theorem dX4_addPinches_32 : decode cX4_addPinches 32 = .ok (.invokevirtual 62, 3) := by decide +kernel
theorem dX4_addPinches_35 : decode cX4_addPinches 35 = .ok (.istore 6, 2) := by decide +kernel
theorem dX4_addPinches_37 : decode cX4_addPinches 37 = .ok (.iload_n 3, 1) := by decide +kernel
theorem dX4_addPinches_38 : decode cX4_addPinches 38 = .ok (.iload 4, 2) := by decide +kernel
theorem dX4_addPinches_40 : decode cX4_addPinches 40 = .ok (.if_icmp .eq 43, 3) := by decide +kernel
theorem dX4_addPinches_43 : decode cX4_addPinches 43 = .ok (.iload 5, 2) := by decide +kernel
theorem dX4_addPinches_45 : decode cX4_addPinches 45 = .ok (.invokestatic 66, 3) := by decide +kernel
theorem dX4_addPinches_48 : decode cX4_addPinches 48 = .ok (.ifCond .eq 35, 3) := by decide +kernel
theorem dX4_addPinches_51 : decode cX4_addPinches 51 = .ok (.iload 6, 2) := by decide +kernel
theorem dX4_addPinches_53 : decode cX4_addPinches 53 = .ok (.invokestatic 66, 3) := by decide +kernel
theorem dX4_addPinches_56 : decode cX4_addPinches 56 = .ok (.ifCond .eq 27, 3) := by decide +kernel
theorem dX4_addPinches_59 : decode cX4_addPinches 59 = .ok (.aload_n 0, 1) := by decide +kernel
theorem dX4_addPinches_60 : decode cX4_addPinches 60 = .ok (.getfield 18, 3) := by decide +kernel
theorem dX4_addPinches_63 : decode cX4_addPinches 63 = .ok (.aload_n 2, 1) := by decide +kernel
theorem dX4_addPinches_64 : decode cX4_addPinches 64 = .ok (.iload 5, 2) := by decide +kernel
theorem dX4_addPinches_66 : decode cX4_addPinches 66 = .ok (.iaload, 1) := by decide +kernel
theorem dX4_addPinches_67 : decode cX4_addPinches 67 = .ok (.aload_n 2, 1) := by decide +kernel
theorem dX4_addPinches_68 : decode cX4_addPinches 68 = .ok (.iload 6, 2) := by decide +kernel
theorem dX4_addPinches_70 : decode cX4_addPinches 70 = .ok (.iaload, 1) := by decide +kernel
theorem dX4_addPinches_71 : decode cX4_addPinches 71 = .ok (.iconst 1, 1) := by decide +kernel
theorem dX4_addPinches_72 : decode cX4_addPinches 72 = .ok (.aload_n 1, 1) := by decide +kernel
theorem dX4_addPinches_73 : decode cX4_addPinches 73 = .ok (.iload_n 3, 1) := by decide +kernel
theorem dX4_addPinches_74 : decode cX4_addPinches 74 = .ok (.iload 4, 2) := by decide +kernel
theorem dX4_addPinches_76 : decode cX4_addPinches 76 = .ok (.invokevirtual 69, 3) := by decide +kernel
theorem dX4_addPinches_79 : decode cX4_addPinches 79 = .ok (.iadd, 1) := by decide +kernel
theorem dX4_addPinches_80 : decode cX4_addPinches 80 = .ok (.invokevirtual 31, 3) := by decide +kernel
theorem dX4_addPinches_83 : decode cX4_addPinches 83 = .ok (.iinc 4 1, 3) := by decide +kernel
theorem dX4_addPinches_86 : decode cX4_addPinches 86 = .ok (.goto (-73), 3) := by decide +kernel
theorem dX4_addPinches_89 : decode cX4_addPinches 89 = .ok (.iinc 3 1, 3) := by decide +kernel
theorem dX4_addPinches_92 : decode cX4_addPinches 92 = .ok (.goto (-90), 3) := by decide +kernel
theorem dX4_addPinches_95 : decode cX4_addPinches 95 = .ok (.return_, 1) := by decide +kernel
theorem dX4_minutesBetween_0 : decode cX4_minutesBetween 0 = .ok (.aload_n 0, 1) := by decide +kernel
theorem dX4_minutesBetween_1 : decode cX4_minutesBetween 1 = .ok (.getfield 18, 3) := by decide +kernel
theorem dX4_minutesBetween_4 : decode cX4_minutesBetween 4 = .ok (.iload_n 1, 1) := by decide +kernel
theorem dX4_minutesBetween_5 : decode cX4_minutesBetween 5 = .ok (.iload_n 2, 1) := by decide +kernel
theorem dX4_minutesBetween_6 : decode cX4_minutesBetween 6 = .ok (.invokevirtual 73, 3) := by decide +kernel
theorem dX4_minutesBetween_9 : decode cX4_minutesBetween 9 = .ok (.istore_n 3, 1) := by decide +kernel
theorem dX4_minutesBetween_10 : decode cX4_minutesBetween 10 = .ok (.iload_n 3, 1) := by decide +kernel
theorem dX4_minutesBetween_11 : decode cX4_minutesBetween 11 = .ok (.ldc 76, 2) := by decide +kernel
theorem dX4_minutesBetween_13 : decode cX4_minutesBetween 13 = .ok (.if_icmp .ge 7, 3) := by decide +kernel
theorem dX4_minutesBetween_16 : decode cX4_minutesBetween 16 = .ok (.iload_n 3, 1) := by decide +kernel
theorem dX4_minutesBetween_17 : decode cX4_minutesBetween 17 = .ok (.goto 4, 3) := by decide +kernel
theorem dX4_minutesBetween_20 : decode cX4_minutesBetween 20 = .ok (.iconst (-1), 1) := by decide +kernel
theorem dX4_minutesBetween_21 : decode cX4_minutesBetween 21 = .ok (.ireturn, 1) := by decide +kernel
theorem dX4_townOfPairs_0 : decode cX4_townOfPairs 0 = .ok (.iload_n 1, 1) := by decide +kernel
theorem dX4_townOfPairs_1 : decode cX4_townOfPairs 1 = .ok (.ifCond .lt 17, 3) := by decide +kernel
theorem dX4_townOfPairs_4 : decode cX4_townOfPairs 4 = .ok (.iload_n 1, 1) := by decide +kernel
theorem dX4_townOfPairs_5 : decode cX4_townOfPairs 5 = .ok (.iconst 4, 1) := by decide +kernel
theorem dX4_townOfPairs_6 : decode cX4_townOfPairs 6 = .ok (.if_icmp .ge 12, 3) := by decide +kernel
theorem dX4_townOfPairs_9 : decode cX4_townOfPairs 9 = .ok (.aload_n 0, 1) := by decide +kernel
theorem dX4_townOfPairs_10 : decode cX4_townOfPairs 10 = .ok (.getfield 25, 3) := by decide +kernel
theorem dX4_townOfPairs_13 : decode cX4_townOfPairs 13 = .ok (.iload_n 1, 1) := by decide +kernel
theorem dX4_townOfPairs_14 : decode cX4_townOfPairs 14 = .ok (.iaload, 1) := by decide +kernel
theorem dX4_townOfPairs_15 : decode cX4_townOfPairs 15 = .ok (.goto 4, 3) := by decide +kernel
theorem dX4_townOfPairs_18 : decode cX4_townOfPairs 18 = .ok (.iconst (-1), 1) := by decide +kernel
theorem dX4_townOfPairs_19 : decode cX4_townOfPairs 19 = .ok (.ireturn, 1) := by decide +kernel
theorem dX4_fewestPairs_0 : decode cX4_fewestPairs 0 = .ok (.aload_n 0, 1) := by decide +kernel
theorem dX4_fewestPairs_1 : decode cX4_fewestPairs 1 = .ok (.getfield 25, 3) := by decide +kernel
theorem dX4_fewestPairs_4 : decode cX4_fewestPairs 4 = .ok (.iconst (-1), 1) := by decide +kernel
theorem dX4_fewestPairs_5 : decode cX4_fewestPairs 5 = .ok (.invokestatic 77, 3) := by decide +kernel
theorem dX4_fewestPairs_8 : decode cX4_fewestPairs 8 = .ok (.aload_n 0, 1) := by decide +kernel
theorem dX4_fewestPairs_9 : decode cX4_fewestPairs 9 = .ok (.getfield 18, 3) := by decide +kernel
theorem dX4_fewestPairs_12 : decode cX4_fewestPairs 12 = .ok (.iload_n 1, 1) := by decide +kernel
theorem dX4_fewestPairs_13 : decode cX4_fewestPairs 13 = .ok (.invokevirtual 83, 3) := by decide +kernel
theorem dX4_fewestPairs_16 : decode cX4_fewestPairs 16 = .ok (.ifCond .eq 5, 3) := by decide +kernel
theorem dX4_fewestPairs_19 : decode cX4_fewestPairs 19 = .ok (.iconst 0, 1) := by decide +kernel
theorem dX4_fewestPairs_20 : decode cX4_fewestPairs 20 = .ok (.ireturn, 1) := by decide +kernel
theorem dX4_fewestPairs_21 : decode cX4_fewestPairs 21 = .ok (.aload_n 0, 1) := by decide +kernel
theorem dX4_fewestPairs_22 : decode cX4_fewestPairs 22 = .ok (.iload_n 1, 1) := by decide +kernel
theorem dX4_fewestPairs_23 : decode cX4_fewestPairs 23 = .ok (.invokevirtual 86, 3) := by decide +kernel
theorem dX4_fewestPairs_26 : decode cX4_fewestPairs 26 = .ok (.ifCond .eq 5, 3) := by decide +kernel
theorem dX4_fewestPairs_29 : decode cX4_fewestPairs 29 = .ok (.iconst 1, 1) := by decide +kernel
theorem dX4_fewestPairs_30 : decode cX4_fewestPairs 30 = .ok (.ireturn, 1) := by decide +kernel
theorem dX4_fewestPairs_31 : decode cX4_fewestPairs 31 = .ok (.aload_n 0, 1) := by decide +kernel
theorem dX4_fewestPairs_32 : decode cX4_fewestPairs 32 = .ok (.iload_n 1, 1) := by decide +kernel
theorem dX4_fewestPairs_33 : decode cX4_fewestPairs 33 = .ok (.invokevirtual 89, 3) := by decide +kernel
theorem dX4_fewestPairs_36 : decode cX4_fewestPairs 36 = .ok (.ifCond .eq 7, 3) := by decide +kernel
theorem dX4_fewestPairs_39 : decode cX4_fewestPairs 39 = .ok (.iconst 2, 1) := by decide +kernel
theorem dX4_fewestPairs_40 : decode cX4_fewestPairs 40 = .ok (.goto 4, 3) := by decide +kernel
theorem dX4_fewestPairs_43 : decode cX4_fewestPairs 43 = .ok (.iconst (-1), 1) := by decide +kernel
theorem dX4_fewestPairs_44 : decode cX4_fewestPairs 44 = .ok (.ireturn, 1) := by decide +kernel

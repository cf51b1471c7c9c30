theorem dX11_faultOf_10 : decode cX11_faultOf 10 = .ok (.aload_n 0, 1) := by decide +kernel
theorem dX11_faultOf_11 : decode cX11_faultOf 11 = .ok (.iconst 0, 1) := by decide +kernel
theorem dX11_faultOf_12 : decode cX11_faultOf 12 = .ok (.putfield 96, 3) := by decide +kernel
theorem dX11_faultOf_15 : decode cX11_faultOf 15 = .ok (.iconst 0, 1) := by decide +kernel
theorem dX11_faultOf_16 : decode cX11_faultOf 16 = .ok (.istore_n 1, 1) := by decide +kernel
theorem dX11_faultOf_17 : decode cX11_faultOf 17 = .ok (.iload_n 1, 1) := by decide +kernel
theorem dX11_faultOf_18 : decode cX11_faultOf 18 = .ok (.aload_n 0, 1) := by decide +kernel
theorem dX11_faultOf_19 : decode cX11_faultOf 19 = .ok (.getfield 87, 3) := by decide +kernel
theorem dX11_faultOf_22 : decode cX11_faultOf 22 = .ok (.if_icmp .ge 22, 3) := by decide +kernel
theorem dX11_faultOf_25 : decode cX11_faultOf 25 = .ok (.aload_n 0, 1) := by decide +kernel
theorem dX11_faultOf_26 : decode cX11_faultOf 26 = .ok (.aload_n 0, 1) := by decide +kernel
theorem dX11_faultOf_27 : decode cX11_faultOf 27 = .ok (.getfield 16, 3) := by decide +kernel
theorem dX11_faultOf_30 : decode cX11_faultOf 30 = .ok (.iload_n 1, 1) := by decide +kernel
theorem dX11_faultOf_31 : decode cX11_faultOf 31 = .ok (.iaload, 1) := by decide +kernel
theorem dX11_faultOf_32 : decode cX11_faultOf 32 = .ok (.invokevirtual 110, 3) := by decide +kernel
theorem dX11_faultOf_35 : decode cX11_faultOf 35 = .ok (.ifCond .eq 9, 3) := by decide +kernel
theorem dX11_faultOf_38 : decode cX11_faultOf 38 = .ok (.iinc 1 1, 3) := by decide +kernel
theorem dX11_faultOf_41 : decode cX11_faultOf 41 = .ok (.goto (-24), 3) := by decide +kernel
theorem dX11_faultOf_44 : decode cX11_faultOf 44 = .ok (.iload_n 1, 1) := by decide +kernel
theorem dX11_faultOf_45 : decode cX11_faultOf 45 = .ok (.ireturn, 1) := by decide +kernel
theorem dX11_fault_0 : decode cX11_fault 0 = .ok (.aload_n 0, 1) := by decide +kernel
theorem dX11_fault_1 : decode cX11_fault 1 = .ok (.invokevirtual 113, 3) := by decide +kernel
theorem dX11_fault_4 : decode cX11_fault 4 = .ok (.ireturn, 1) := by decide +kernel
theorem dX11_births_0 : decode cX11_births 0 = .ok (.aload_n 0, 1) := by decide +kernel
theorem dX11_births_1 : decode cX11_births 1 = .ok (.invokevirtual 113, 3) := by decide +kernel
theorem dX11_births_4 : decode cX11_births 4 = .ok (.aload_n 0, 1) := by decide +kernel
theorem dX11_births_5 : decode cX11_births 5 = .ok (.getfield 87, 3) := by decide +kernel
theorem dX11_births_8 : decode cX11_births 8 = .ok (.if_icmp .lt 10, 3) := by decide +kernel
theorem dX11_births_11 : decode cX11_births 11 = .ok (.aload_n 0, 1) := by decide +kernel
theorem dX11_births_12 : decode cX11_births 12 = .ok (.invokevirtual 106, 3) := by decide +kernel
theorem dX11_births_15 : decode cX11_births 15 = .ok (.ifCond .ne 6, 3) := by decide +kernel
theorem dX11_births_18 : decode cX11_births 18 = .ok (.bipush (-103), 2) := by decide +kernel
theorem dX11_births_20 : decode cX11_births 20 = .ok (.ireturn, 1) := by decide +kernel
theorem dX11_births_21 : decode cX11_births 21 = .ok (.aload_n 0, 1) := by decide +kernel
theorem dX11_births_22 : decode cX11_births 22 = .ok (.aload_n 0, 1) := by decide +kernel
theorem dX11_births_23 : decode cX11_births 23 = .ok (.getfield 90, 3) := by decide +kernel
theorem dX11_births_26 : decode cX11_births 26 = .ok (.iconst 1, 1) := by decide +kernel
theorem dX11_births_27 : decode cX11_births 27 = .ok (.iadd, 1) := by decide +kernel
theorem dX11_births_28 : decode cX11_births 28 = .ok (.putfield 117, 3) := by decide +kernel
theorem dX11_births_31 : decode cX11_births 31 = .ok (.iconst 0, 1) := by decide +kernel
theorem dX11_births_32 : decode cX11_births 32 = .ok (.istore_n 1, 1) := by decide +kernel
theorem dX11_births_33 : decode cX11_births 33 = .ok (.iload_n 1, 1) := by decide +kernel
theorem dX11_births_34 : decode cX11_births 34 = .ok (.bipush 10, 2) := by decide +kernel
theorem dX11_births_36 : decode cX11_births 36 = .ok (.if_icmp .ge 16, 3) := by decide +kernel
theorem dX11_births_39 : decode cX11_births 39 = .ok (.aload_n 0, 1) := by decide +kernel
theorem dX11_births_40 : decode cX11_births 40 = .ok (.getfield 25, 3) := by decide +kernel
theorem dX11_births_43 : decode cX11_births 43 = .ok (.iload_n 1, 1) := by decide +kernel
theorem dX11_births_44 : decode cX11_births 44 = .ok (.iconst (-1), 1) := by decide +kernel
theorem dX11_births_45 : decode cX11_births 45 = .ok (.iastore, 1) := by decide +kernel
theorem dX11_births_46 : decode cX11_births 46 = .ok (.iinc 1 1, 3) := by decide +kernel
theorem dX11_births_49 : decode cX11_births 49 = .ok (.goto (-16), 3) := by decide +kernel
theorem dX11_births_52 : decode cX11_births 52 = .ok (.iconst 0, 1) := by decide +kernel
theorem dX11_births_53 : decode cX11_births 53 = .ok (.istore_n 1, 1) := by decide +kernel
theorem dX11_births_54 : decode cX11_births 54 = .ok (.iload_n 1, 1) := by decide +kernel
theorem dX11_births_55 : decode cX11_births 55 = .ok (.bipush 7, 2) := by decide +kernel
theorem dX11_births_57 : decode cX11_births 57 = .ok (.aload_n 0, 1) := by decide +kernel
theorem dX11_births_58 : decode cX11_births 58 = .ok (.getfield 117, 3) := by decide +kernel
theorem dX11_births_61 : decode cX11_births 61 = .ok (.imul, 1) := by decide +kernel
theorem dX11_births_62 : decode cX11_births 62 = .ok (.if_icmp .ge 54, 3) := by decide +kernel
theorem dX11_births_65 : decode cX11_births 65 = .ok (.aload_n 0, 1) := by decide +kernel
theorem dX11_births_66 : decode cX11_births 66 = .ok (.getfield 22, 3) := by decide +kernel
theorem dX11_births_69 : decode cX11_births 69 = .ok (.iload_n 1, 1) := by decide +kernel
theorem dX11_births_70 : decode cX11_births 70 = .ok (.aload_n 0, 1) := by decide +kernel
theorem dX11_births_71 : decode cX11_births 71 = .ok (.getfield 19, 3) := by decide +kernel
theorem dX11_births_74 : decode cX11_births 74 = .ok (.iload_n 1, 1) := by decide +kernel
theorem dX11_births_75 : decode cX11_births 75 = .ok (.iaload, 1) := by decide +kernel
theorem dX11_births_76 : decode cX11_births 76 = .ok (.iastore, 1) := by decide +kernel
theorem dX11_births_77 : decode cX11_births 77 = .ok (.iload_n 1, 1) := by decide +kernel
theorem dX11_births_78 : decode cX11_births 78 = .ok (.bipush 7, 2) := by decide +kernel
theorem dX11_births_80 : decode cX11_births 80 = .ok (.irem, 1) := by decide +kernel
theorem dX11_births_81 : decode cX11_births 81 = .ok (.iconst 2, 1) := by decide +kernel
theorem dX11_births_82 : decode cX11_births 82 = .ok (.if_icmp .le 28, 3) := by decide +kernel
theorem dX11_births_85 : decode cX11_births 85 = .ok (.aload_n 0, 1) := by decide +kernel
theorem dX11_births_86 : decode cX11_births 86 = .ok (.getfield 19, 3) := by decide +kernel
theorem dX11_births_89 : decode cX11_births 89 = .ok (.iload_n 1, 1) := by decide +kernel
theorem dX11_births_90 : decode cX11_births 90 = .ok (.iaload, 1) := by decide +kernel
theorem dX11_births_91 : decode cX11_births 91 = .ok (.iconst (-1), 1) := by decide +kernel
theorem dX11_births_92 : decode cX11_births 92 = .ok (.if_icmp .eq 18, 3) := by decide +kernel
theorem dX11_births_95 : decode cX11_births 95 = .ok (.aload_n 0, 1) := by decide +kernel
theorem dX11_births_96 : decode cX11_births 96 = .ok (.getfield 25, 3) := by decide +kernel
theorem dX11_births_99 : decode cX11_births 99 = .ok (.aload_n 0, 1) := by decide +kernel
theorem dX11_births_100 : decode cX11_births 100 = .ok (.getfield 19, 3) := by decide +kernel
theorem dX11_births_103 : decode cX11_births 103 = .ok (.iload_n 1, 1) := by decide +kernel
theorem dX11_births_104 : decode cX11_births 104 = .ok (.iaload, 1) := by decide +kernel
theorem dX11_births_105 : decode cX11_births 105 = .ok (.iload_n 1, 1) := by decide +kernel
theorem dX11_births_106 : decode cX11_births 106 = .ok (.bipush 7, 2) := by decide +kernel
theorem dX11_births_108 : decode cX11_births 108 = .ok (.idiv, 1) := by decide +kernel
theorem dX11_births_109 : decode cX11_births 109 = .ok (.iastore, 1) := by decide +kernel
theorem dX11_births_110 : decode cX11_births 110 = .ok (.iinc 1 1, 3) := by decide +kernel
theorem dX11_births_113 : decode cX11_births 113 = .ok (.goto (-59), 3) := by decide +kernel
theorem dX11_births_116 : decode cX11_births 116 = .ok (.aload_n 0, 1) := by decide +kernel
theorem dX11_births_117 : decode cX11_births 117 = .ok (.iconst 0, 1) := by decide +kernel
theorem dX11_births_118 : decode cX11_births 118 = .ok (.putfield 120, 3) := by decide +kernel
theorem dX11_births_121 : decode cX11_births 121 = .ok (.aload_n 0, 1) := by decide +kernel
theorem dX11_births_122 : decode cX11_births 122 = .ok (.dup, 1) := by decide +kernel
theorem dX11_births_123 : decode cX11_births 123 = .ok (.getfield 123, 3) := by decide +kernel
theorem dX11_births_126 : decode cX11_births 126 = .ok (.iconst 1, 1) := by decide +kernel
theorem dX11_births_127 : decode cX11_births 127 = .ok (.iadd, 1) := by decide +kernel
theorem dX11_births_128 : decode cX11_births 128 = .ok (.putfield 123, 3) := by decide +kernel
theorem dX11_births_131 : decode cX11_births 131 = .ok (.aload_n 0, 1) := by decide +kernel
theorem dX11_births_132 : decode cX11_births 132 = .ok (.iconst 0, 1) := by decide +kernel
theorem dX11_births_133 : decode cX11_births 133 = .ok (.putfield 87, 3) := by decide +kernel
theorem dX11_births_136 : decode cX11_births 136 = .ok (.aload_n 0, 1) := by decide +kernel
theorem dX11_births_137 : decode cX11_births 137 = .ok (.getfield 117, 3) := by decide +kernel
theorem dX11_births_140 : decode cX11_births 140 = .ok (.ireturn, 1) := by decide +kernel
theorem dX11_birth_0 : decode cX11_birth 0 = .ok (.iload_n 1, 1) := by decide +kernel
theorem dX11_birth_1 : decode cX11_birth 1 = .ok (.i2l, 1) := by decide +kernel
theorem dX11_birth_2 : decode cX11_birth 2 = .ok (.lconst 0, 1) := by decide +kernel
theorem dX11_birth_3 : decode cX11_birth 3 = .ok (.aload_n 0, 1) := by decide +kernel
theorem dX11_birth_4 : decode cX11_birth 4 = .ok (.getfield 117, 3) := by decide +kernel
theorem dX11_birth_7 : decode cX11_birth 7 = .ok (.iconst 1, 1) := by decide +kernel
theorem dX11_birth_8 : decode cX11_birth 8 = .ok (.isub, 1) := by decide +kernel
theorem dX11_birth_9 : decode cX11_birth 9 = .ok (.i2l, 1) := by decide +kernel
theorem dX11_birth_10 : decode cX11_birth 10 = .ok (.invokestatic 70, 3) := by decide +kernel
theorem dX11_birth_13 : decode cX11_birth 13 = .ok (.ifCond .ne 6, 3) := by decide +kernel
theorem dX11_birth_16 : decode cX11_birth 16 = .ok (.bipush (-101), 2) := by decide +kernel
theorem dX11_birth_18 : decode cX11_birth 18 = .ok (.ireturn, 1) := by decide +kernel
theorem dX11_birth_19 : decode cX11_birth 19 = .ok (.iload_n 2, 1) := by decide +kernel
theorem dX11_birth_20 : decode cX11_birth 20 = .ok (.i2l, 1) := by decide +kernel
theorem dX11_birth_21 : decode cX11_birth 21 = .ok (.lconst 0, 1) := by decide +kernel
theorem dX11_birth_22 : decode cX11_birth 22 = .ok (.ldc2_w 126, 3) := by decide +kernel
theorem dX11_birth_25 : decode cX11_birth 25 = .ok (.invokestatic 70, 3) := by decide +kernel
theorem dX11_birth_28 : decode cX11_birth 28 = .ok (.ifCond .eq 17, 3) := by decide +kernel
theorem dX11_birth_31 : decode cX11_birth 31 = .ok (.aload_n 0, 1) := by decide +kernel
theorem dX11_birth_32 : decode cX11_birth 32 = .ok (.getfield 22, 3) := by decide +kernel
theorem dX11_birth_35 : decode cX11_birth 35 = .ok (.bipush 7, 2) := by decide +kernel
theorem dX11_birth_37 : decode cX11_birth 37 = .ok (.iload_n 1, 1) := by decide +kernel
theorem dX11_birth_38 : decode cX11_birth 38 = .ok (.imul, 1) := by decide +kernel
theorem dX11_birth_39 : decode cX11_birth 39 = .ok (.iload_n 2, 1) := by decide +kernel
theorem dX11_birth_40 : decode cX11_birth 40 = .ok (.iadd, 1) := by decide +kernel
theorem dX11_birth_41 : decode cX11_birth 41 = .ok (.iaload, 1) := by decide +kernel
theorem dX11_birth_42 : decode cX11_birth 42 = .ok (.goto 5, 3) := by decide +kernel
theorem dX11_birth_45 : decode cX11_birth 45 = .ok (.bipush (-102), 2) := by decide +kernel
theorem dX11_birth_47 : decode cX11_birth 47 = .ok (.ireturn, 1) := by decide +kernel
theorem dX11_as_0 : decode cX11_as 0 = .ok (.iload_n 1, 1) := by decide +kernel
theorem dX11_as_1 : decode cX11_as 1 = .ok (.i2l, 1) := by decide +kernel
theorem dX11_as_2 : decode cX11_as 2 = .ok (.lconst 0, 1) := by decide +kernel
theorem dX11_as_3 : decode cX11_as 3 = .ok (.aload_n 0, 1) := by decide +kernel
theorem dX11_as_4 : decode cX11_as 4 = .ok (.getfield 117, 3) := by decide +kernel
theorem dX11_as_7 : decode cX11_as 7 = .ok (.iconst 1, 1) := by decide +kernel
theorem dX11_as_8 : decode cX11_as 8 = .ok (.isub, 1) := by decide +kernel
theorem dX11_as_9 : decode cX11_as 9 = .ok (.i2l, 1) := by decide +kernel
theorem dX11_as_10 : decode cX11_as 10 = .ok (.invokestatic 70, 3) := by decide +kernel
theorem dX11_as_13 : decode cX11_as 13 = .ok (.ifCond .ne 6, 3) := by decide +kernel
theorem dX11_as_16 : decode cX11_as 16 = .ok (.bipush (-101), 2) := by decide +kernel
theorem dX11_as_18 : decode cX11_as 18 = .ok (.ireturn, 1) := by decide +kernel
theorem dX11_as_19 : decode cX11_as 19 = .ok (.iload_n 2, 1) := by decide +kernel
theorem dX11_as_20 : decode cX11_as 20 = .ok (.i2l, 1) := by decide +kernel
theorem dX11_as_21 : decode cX11_as 21 = .ok (.lconst 0, 1) := by decide +kernel
theorem dX11_as_22 : decode cX11_as 22 = .ok (.ldc2_w 128, 3) := by decide +kernel
theorem dX11_as_25 : decode cX11_as 25 = .ok (.invokestatic 70, 3) := by decide +kernel
theorem dX11_as_28 : decode cX11_as 28 = .ok (.ifCond .ne 6, 3) := by decide +kernel
theorem dX11_as_31 : decode cX11_as 31 = .ok (.bipush (-102), 2) := by decide +kernel
theorem dX11_as_33 : decode cX11_as 33 = .ok (.ireturn, 1) := by decide +kernel
theorem dX11_as_34 : decode cX11_as 34 = .ok (.aload_n 0, 1) := by decide +kernel
theorem dX11_as_35 : decode cX11_as 35 = .ok (.getfield 22, 3) := by decide +kernel
theorem dX11_as_38 : decode cX11_as 38 = .ok (.bipush 7, 2) := by decide +kernel
theorem dX11_as_40 : decode cX11_as 40 = .ok (.iload_n 1, 1) := by decide +kernel
theorem dX11_as_41 : decode cX11_as 41 = .ok (.imul, 1) := by decide +kernel
theorem dX11_as_42 : decode cX11_as 42 = .ok (.iaload, 1) := by decide +kernel
theorem dX11_as_43 : decode cX11_as 43 = .ok (.istore_n 3, 1) := by decide +kernel
theorem dX11_as_44 : decode cX11_as 44 = .ok (.iload_n 2, 1) := by decide +kernel
theorem dX11_as_45 : decode cX11_as 45 = .ok (.ifCond .eq 8, 3) := by decide +kernel
theorem dX11_as_48 : decode cX11_as 48 = .ok (.iload_n 2, 1) := by decide +kernel
theorem dX11_as_49 : decode cX11_as 49 = .ok (.iload_n 3, 1) := by decide +kernel
theorem dX11_as_50 : decode cX11_as 50 = .ok (.if_icmp .ne 7, 3) := by decide +kernel
theorem dX11_as_53 : decode cX11_as 53 = .ok (.iconst 1, 1) := by decide +kernel
theorem dX11_as_54 : decode cX11_as 54 = .ok (.goto 4, 3) := by decide +kernel
theorem dX11_as_57 : decode cX11_as 57 = .ok (.iconst 0, 1) := by decide +kernel
theorem dX11_as_58 : decode cX11_as 58 = .ok (.istore 4, 2) := by decide +kernel
theorem dX11_as_60 : decode cX11_as 60 = .ok (.iload 4, 2) := by decide +kernel
theorem dX11_as_62 : decode cX11_as 62 = .ok (.ifCond .eq 7, 3) := by decide +kernel
theorem dX11_as_65 : decode cX11_as 65 = .ok (.iload_n 1, 1) := by decide +kernel
theorem dX11_as_66 : decode cX11_as 66 = .ok (.goto 4, 3) := by decide +kernel
theorem dX11_as_69 : decode cX11_as 69 = .ok (.iconst (-1), 1) := by decide +kernel
theorem dX11_as_70 : decode cX11_as 70 = .ok (.ireturn, 1) := by decide +kernel
theorem dX11_touchedBy_0 : decode cX11_touchedBy 0 = .ok (.iconst 0, 1) := by decide +kernel
theorem dX11_touchedBy_1 : decode cX11_touchedBy 1 = .ok (.istore_n 3, 1) := by decide +kernel
theorem dX11_touchedBy_2 : decode cX11_touchedBy 2 = .ok (.iconst 0, 1) := by decide +kernel
theorem dX11_touchedBy_3 : decode cX11_touchedBy 3 = .ok (.istore 4, 2) := by decide +kernel
theorem dX11_touchedBy_5 : decode cX11_touchedBy 5 = .ok (.iload 4, 2) := by decide +kernel
theorem dX11_touchedBy_7 : decode cX11_touchedBy 7 = .ok (.iload_n 2, 1) := by decide +kernel
theorem dX11_touchedBy_8 : decode cX11_touchedBy 8 = .ok (.if_icmp .ge 30, 3) := by decide +kernel
theorem dX11_touchedBy_11 : decode cX11_touchedBy 11 = .ok (.iload_n 3, 1) := by decide +kernel
theorem dX11_touchedBy_12 : decode cX11_touchedBy 12 = .ok (.aload_n 0, 1) := by decide +kernel
theorem dX11_touchedBy_13 : decode cX11_touchedBy 13 = .ok (.getfield 28, 3) := by decide +kernel
theorem dX11_touchedBy_16 : decode cX11_touchedBy 16 = .ok (.iconst 2, 1) := by decide +kernel
theorem dX11_touchedBy_17 : decode cX11_touchedBy 17 = .ok (.iload 4, 2) := by decide +kernel
theorem dX11_touchedBy_19 : decode cX11_touchedBy 19 = .ok (.imul, 1) := by decide +kernel
theorem dX11_touchedBy_20 : decode cX11_touchedBy 20 = .ok (.iaload, 1) := by decide +kernel
theorem dX11_touchedBy_21 : decode cX11_touchedBy 21 = .ok (.iload_n 1, 1) := by decide +kernel
theorem dX11_touchedBy_22 : decode cX11_touchedBy 22 = .ok (.if_icmp .ne 7, 3) := by decide +kernel
theorem dX11_touchedBy_25 : decode cX11_touchedBy 25 = .ok (.iconst 1, 1) := by decide +kernel
theorem dX11_touchedBy_26 : decode cX11_touchedBy 26 = .ok (.goto 4, 3) := by decide +kernel
theorem dX11_touchedBy_29 : decode cX11_touchedBy 29 = .ok (.iconst 0, 1) := by decide +kernel
theorem dX11_touchedBy_30 : decode cX11_touchedBy 30 = .ok (.iadd, 1) := by decide +kernel
theorem dX11_touchedBy_31 : decode cX11_touchedBy 31 = .ok (.istore_n 3, 1) := by decide +kernel
theorem dX11_touchedBy_32 : decode cX11_touchedBy 32 = .ok (.iinc 4 1, 3) := by decide +kernel
theorem dX11_touchedBy_35 : decode cX11_touchedBy 35 = .ok (.goto (-30), 3) := by decide +kernel
theorem dX11_touchedBy_38 : decode cX11_touchedBy 38 = .ok (.iload_n 3, 1) := by decide +kernel
theorem dX11_touchedBy_39 : decode cX11_touchedBy 39 = .ok (.ireturn, 1) := by decide +kernel
theorem dX11_tellPerson_0 : decode cX11_tellPerson 0 = .ok (.iload_n 2, 1) := by decide +kernel
theorem dX11_tellPerson_1 : decode cX11_tellPerson 1 = .ok (.ifCond .ne 12, 3) := by decide +kernel
theorem dX11_tellPerson_4 : decode cX11_tellPerson 4 = .ok (.aload_n 0, 1) := by decide +kernel
theorem dX11_tellPerson_5 : decode cX11_tellPerson 5 = .ok (.getfield 13, 3) := by decide +kernel
theorem dX11_tellPerson_8 : decode cX11_tellPerson 8 = .ok (.iload_n 1, 1) := by decide +kernel
theorem dX11_tellPerson_9 : decode cX11_tellPerson 9 = .ok (.iaload, 1) := by decide +kernel
theorem dX11_tellPerson_10 : decode cX11_tellPerson 10 = .ok (.goto 36, 3) := by decide +kernel
theorem dX11_tellPerson_13 : decode cX11_tellPerson 13 = .ok (.iload_n 2, 1) := by decide +kernel
theorem dX11_tellPerson_14 : decode cX11_tellPerson 14 = .ok (.iconst 1, 1) := by decide +kernel
theorem dX11_tellPerson_15 : decode cX11_tellPerson 15 = .ok (.if_icmp .ne 12, 3) := by decide +kernel
theorem dX11_tellPerson_18 : decode cX11_tellPerson 18 = .ok (.aload_n 0, 1) := by decide +kernel
theorem dX11_tellPerson_19 : decode cX11_tellPerson 19 = .ok (.getfield 25, 3) := by decide +kernel
theorem dX11_tellPerson_22 : decode cX11_tellPerson 22 = .ok (.iload_n 1, 1) := by decide +kernel
theorem dX11_tellPerson_23 : decode cX11_tellPerson 23 = .ok (.iaload, 1) := by decide +kernel
theorem dX11_tellPerson_24 : decode cX11_tellPerson 24 = .ok (.goto 22, 3) := by decide +kernel
theorem dX11_tellPerson_27 : decode cX11_tellPerson 27 = .ok (.iload_n 2, 1) := by decide +kernel
theorem dX11_tellPerson_28 : decode cX11_tellPerson 28 = .ok (.iconst 2, 1) := by decide +kernel
theorem dX11_tellPerson_29 : decode cX11_tellPerson 29 = .ok (.if_icmp .ne 15, 3) := by decide +kernel
theorem dX11_tellPerson_32 : decode cX11_tellPerson 32 = .ok (.aload_n 0, 1) := by decide +kernel
theorem dX11_tellPerson_33 : decode cX11_tellPerson 33 = .ok (.iload_n 1, 1) := by decide +kernel
theorem dX11_tellPerson_34 : decode cX11_tellPerson 34 = .ok (.aload_n 0, 1) := by decide +kernel
theorem dX11_tellPerson_35 : decode cX11_tellPerson 35 = .ok (.getfield 120, 3) := by decide +kernel
theorem dX11_tellPerson_38 : decode cX11_tellPerson 38 = .ok (.invokevirtual 130, 3) := by decide +kernel
theorem dX11_tellPerson_41 : decode cX11_tellPerson 41 = .ok (.goto 5, 3) := by decide +kernel
theorem dX11_tellPerson_44 : decode cX11_tellPerson 44 = .ok (.bipush (-102), 2) := by decide +kernel
theorem dX11_tellPerson_46 : decode cX11_tellPerson 46 = .ok (.ireturn, 1) := by decide +kernel
theorem dX11_about_0 : decode cX11_about 0 = .ok (.iload_n 1, 1) := by decide +kernel
theorem dX11_about_1 : decode cX11_about 1 = .ok (.invokestatic 82, 3) := by decide +kernel
theorem dX11_about_4 : decode cX11_about 4 = .ok (.ifCond .eq 12, 3) := by decide +kernel
theorem dX11_about_7 : decode cX11_about 7 = .ok (.aload_n 0, 1) := by decide +kernel
theorem dX11_about_8 : decode cX11_about 8 = .ok (.iload_n 1, 1) := by decide +kernel
theorem dX11_about_9 : decode cX11_about 9 = .ok (.iload_n 2, 1) := by decide +kernel
theorem dX11_about_10 : decode cX11_about 10 = .ok (.invokevirtual 134, 3) := by decide +kernel
theorem dX11_about_13 : decode cX11_about 13 = .ok (.goto 5, 3) := by decide +kernel
theorem dX11_about_16 : decode cX11_about 16 = .ok (.bipush (-101), 2) := by decide +kernel
theorem dX11_about_18 : decode cX11_about 18 = .ok (.ireturn, 1) := by decide +kernel
theorem dX11_touch_0 : decode cX11_touch 0 = .ok (.iload_n 1, 1) := by decide +kernel
theorem dX11_touch_1 : decode cX11_touch 1 = .ok (.invokestatic 82, 3) := by decide +kernel
theorem dX11_touch_4 : decode cX11_touch 4 = .ok (.ifCond .ne 6, 3) := by decide +kernel
theorem dX11_touch_7 : decode cX11_touch 7 = .ok (.bipush (-101), 2) := by decide +kernel
theorem dX11_touch_9 : decode cX11_touch 9 = .ok (.ireturn, 1) := by decide +kernel
theorem dX11_touch_10 : decode cX11_touch 10 = .ok (.iload_n 2, 1) := by decide +kernel
theorem dX11_touch_11 : decode cX11_touch 11 = .ok (.i2l, 1) := by decide +kernel
theorem dX11_touch_12 : decode cX11_touch 12 = .ok (.lconst 0, 1) := by decide +kernel
theorem dX11_touch_13 : decode cX11_touch 13 = .ok (.ldc2_w 137, 3) := by decide +kernel
theorem dX11_touch_16 : decode cX11_touch 16 = .ok (.invokestatic 70, 3) := by decide +kernel
theorem dX11_touch_19 : decode cX11_touch 19 = .ok (.ifCond .ne 6, 3) := by decide +kernel
theorem dX11_touch_22 : decode cX11_touch 22 = .ok (.bipush (-102), 2) := by decide +kernel
theorem dX11_touch_24 : decode cX11_touch 24 = .ok (.ireturn, 1) := by decide +kernel
theorem dX11_touch_25 : decode cX11_touch 25 = .ok (.aload_n 0, 1) := by decide +kernel
theorem dX11_touch_26 : decode cX11_touch 26 = .ok (.getfield 120, 3) := by decide +kernel
theorem dX11_touch_29 : decode cX11_touch 29 = .ok (.bipush 12, 2) := by decide +kernel
theorem dX11_touch_31 : decode cX11_touch 31 = .ok (.if_icmp .ne 6, 3) := by decide +kernel
theorem dX11_touch_34 : decode cX11_touch 34 = .ok (.bipush (-104), 2) := by decide +kernel
theorem dX11_touch_36 : decode cX11_touch 36 = .ok (.ireturn, 1) := by decide +kernel
theorem dX11_touch_37 : decode cX11_touch 37 = .ok (.aload_n 0, 1) := by decide +kernel
theorem dX11_touch_38 : decode cX11_touch 38 = .ok (.getfield 28, 3) := by decide +kernel
theorem dX11_touch_41 : decode cX11_touch 41 = .ok (.iconst 2, 1) := by decide +kernel
theorem dX11_touch_42 : decode cX11_touch 42 = .ok (.aload_n 0, 1) := by decide +kernel
theorem dX11_touch_43 : decode cX11_touch 43 = .ok (.getfield 120, 3) := by decide +kernel
theorem dX11_touch_46 : decode cX11_touch 46 = .ok (.imul, 1) := by decide +kernel
theorem dX11_touch_47 : decode cX11_touch 47 = .ok (.iload_n 1, 1) := by decide +kernel
theorem dX11_touch_48 : decode cX11_touch 48 = .ok (.iastore, 1) := by decide +kernel
theorem dX11_touch_49 : decode cX11_touch 49 = .ok (.aload_n 0, 1) := by decide +kernel
theorem dX11_touch_50 : decode cX11_touch 50 = .ok (.getfield 28, 3) := by decide +kernel
theorem dX11_touch_53 : decode cX11_touch 53 = .ok (.iconst 2, 1) := by decide +kernel
theorem dX11_touch_54 : decode cX11_touch 54 = .ok (.aload_n 0, 1) := by decide +kernel
theorem dX11_touch_55 : decode cX11_touch 55 = .ok (.getfield 120, 3) := by decide +kernel
theorem dX11_touch_58 : decode cX11_touch 58 = .ok (.imul, 1) := by decide +kernel
theorem dX11_touch_59 : decode cX11_touch 59 = .ok (.iconst 1, 1) := by decide +kernel
theorem dX11_touch_60 : decode cX11_touch 60 = .ok (.iadd, 1) := by decide +kernel
theorem dX11_touch_61 : decode cX11_touch 61 = .ok (.iload_n 2, 1) := by decide +kernel
theorem dX11_touch_62 : decode cX11_touch 62 = .ok (.iastore, 1) := by decide +kernel
theorem dX11_touch_63 : decode cX11_touch 63 = .ok (.aload_n 0, 1) := by decide +kernel
theorem dX11_touch_64 : decode cX11_touch 64 = .ok (.dup, 1) := by decide +kernel
theorem dX11_touch_65 : decode cX11_touch 65 = .ok (.getfield 120, 3) := by decide +kernel
theorem dX11_touch_68 : decode cX11_touch 68 = .ok (.iconst 1, 1) := by decide +kernel
theorem dX11_touch_69 : decode cX11_touch 69 = .ok (.iadd, 1) := by decide +kernel
theorem dX11_touch_70 : decode cX11_touch 70 = .ok (.putfield 120, 3) := by decide +kernel
theorem dX11_touch_73 : decode cX11_touch 73 = .ok (.aload_n 0, 1) := by decide +kernel
theorem dX11_touch_74 : decode cX11_touch 74 = .ok (.getfield 120, 3) := by decide +kernel
theorem dX11_touch_77 : decode cX11_touch 77 = .ok (.ireturn, 1) := by decide +kernel
theorem dX11_forget_0 : decode cX11_forget 0 = .ok (.aload_n 0, 1) := by decide +kernel
theorem dX11_forget_1 : decode cX11_forget 1 = .ok (.getfield 120, 3) := by decide +kernel
theorem dX11_forget_4 : decode cX11_forget 4 = .ok (.istore_n 1, 1) := by decide +kernel
theorem dX11_forget_5 : decode cX11_forget 5 = .ok (.aload_n 0, 1) := by decide +kernel
theorem dX11_forget_6 : decode cX11_forget 6 = .ok (.iconst 0, 1) := by decide +kernel
theorem dX11_forget_7 : decode cX11_forget 7 = .ok (.putfield 120, 3) := by decide +kernel
theorem dX11_forget_10 : decode cX11_forget 10 = .ok (.iload_n 1, 1) := by decide +kernel
theorem dX11_forget_11 : decode cX11_forget 11 = .ok (.ireturn, 1) := by decide +kernel
theorem dX11_placeIn_0 : decode cX11_placeIn 0 = .ok (.iconst (-1), 1) := by decide +kernel
theorem dX11_placeIn_1 : decode cX11_placeIn 1 = .ok (.istore_n 3, 1) := by decide +kernel
theorem dX11_placeIn_2 : decode cX11_placeIn 2 = .ok (.iconst 0, 1) := by decide +kernel
theorem dX11_placeIn_3 : decode cX11_placeIn 3 = .ok (.istore 4, 2) := by decide +kernel
theorem dX11_placeIn_5 : decode cX11_placeIn 5 = .ok (.iload 4, 2) := by decide +kernel
theorem dX11_placeIn_7 : decode cX11_placeIn 7 = .ok (.aload_n 0, 1) := by decide +kernel
theorem dX11_placeIn_8 : decode cX11_placeIn 8 = .ok (.getfield 22, 3) := by decide +kernel
theorem dX11_placeIn_11 : decode cX11_placeIn 11 = .ok (.bipush 7, 2) := by decide +kernel
theorem dX11_placeIn_13 : decode cX11_placeIn 13 = .ok (.iload_n 1, 1) := by decide +kernel
theorem dX11_placeIn_14 : decode cX11_placeIn 14 = .ok (.imul, 1) := by decide +kernel
theorem dX11_placeIn_15 : decode cX11_placeIn 15 = .ok (.iconst 1, 1) := by decide +kernel
theorem dX11_placeIn_16 : decode cX11_placeIn 16 = .ok (.iadd, 1) := by decide +kernel
theorem dX11_placeIn_17 : decode cX11_placeIn 17 = .ok (.iaload, 1) := by decide +kernel
theorem dX11_placeIn_18 : decode cX11_placeIn 18 = .ok (.if_icmp .ge 34, 3) := by decide +kernel
theorem dX11_placeIn_21 : decode cX11_placeIn 21 = .ok (.aload_n 0, 1) := by decide +kernel
theorem dX11_placeIn_22 : decode cX11_placeIn 22 = .ok (.getfield 22, 3) := by decide +kernel
theorem dX11_placeIn_25 : decode cX11_placeIn 25 = .ok (.bipush 7, 2) := by decide +kernel
theorem dX11_placeIn_27 : decode cX11_placeIn 27 = .ok (.iload_n 1, 1) := by decide +kernel
theorem dX11_placeIn_28 : decode cX11_placeIn 28 = .ok (.imul, 1) := by decide +kernel
theorem dX11_placeIn_29 : decode cX11_placeIn 29 = .ok (.iconst 3, 1) := by decide +kernel
theorem dX11_placeIn_30 : decode cX11_placeIn 30 = .ok (.iadd, 1) := by decide +kernel
theorem dX11_placeIn_31 : decode cX11_placeIn 31 = .ok (.iload 4, 2) := by decide +kernel
theorem dX11_placeIn_33 : decode cX11_placeIn 33 = .ok (.iadd, 1) := by decide +kernel
theorem dX11_placeIn_34 : decode cX11_placeIn 34 = .ok (.iaload, 1) := by decide +kernel
theorem dX11_placeIn_35 : decode cX11_placeIn 35 = .ok (.iload_n 2, 1) := by decide +kernel
theorem dX11_placeIn_36 : decode cX11_placeIn 36 = .ok (.if_icmp .ne 8, 3) := by decide +kernel
theorem dX11_placeIn_39 : decode cX11_placeIn 39 = .ok (.iload 4, 2) := by decide +kernel
theorem dX11_placeIn_41 : decode cX11_placeIn 41 = .ok (.goto 4, 3) := by decide +kernel
theorem dX11_placeIn_44 : decode cX11_placeIn 44 = .ok (.iload_n 3, 1) := by decide +kernel
theorem dX11_placeIn_45 : decode cX11_placeIn 45 = .ok (.istore_n 3, 1) := by decide +kernel
theorem dX11_placeIn_46 : decode cX11_placeIn 46 = .ok (.iinc 4 1, 3) := by decide +kernel
theorem dX11_placeIn_49 : decode cX11_placeIn 49 = .ok (.goto (-44), 3) := by decide +kernel
theorem dX11_placeIn_52 : decode cX11_placeIn 52 = .ok (.iload_n 3, 1) := by decide +kernel
theorem dX11_placeIn_53 : decode cX11_placeIn 53 = .ok (.ireturn, 1) := by decide +kernel
theorem dX11_lateBy_0 : decode cX11_lateBy 0 = .ok (.aload_n 0, 1) := by decide +kernel
theorem dX11_lateBy_1 : decode cX11_lateBy 1 = .ok (.getfield 25, 3) := by decide +kernel
theorem dX11_lateBy_4 : decode cX11_lateBy 4 = .ok (.iload_n 2, 1) := by decide +kernel
theorem dX11_lateBy_5 : decode cX11_lateBy 5 = .ok (.iaload, 1) := by decide +kernel
theorem dX11_lateBy_6 : decode cX11_lateBy 6 = .ok (.istore_n 3, 1) := by decide +kernel
theorem dX11_lateBy_7 : decode cX11_lateBy 7 = .ok (.iload_n 3, 1) := by decide +kernel
theorem dX11_lateBy_8 : decode cX11_lateBy 8 = .ok (.iconst (-1), 1) := by decide +kernel
theorem dX11_lateBy_9 : decode cX11_lateBy 9 = .ok (.if_icmp .eq 18, 3) := by decide +kernel
theorem dX11_lateBy_12 : decode cX11_lateBy 12 = .ok (.aload_n 0, 1) := by decide +kernel
theorem dX11_lateBy_13 : decode cX11_lateBy 13 = .ok (.getfield 25, 3) := by decide +kernel
theorem dX11_lateBy_16 : decode cX11_lateBy 16 = .ok (.iload_n 1, 1) := by decide +kernel
theorem dX11_lateBy_17 : decode cX11_lateBy 17 = .ok (.iaload, 1) := by decide +kernel
theorem dX11_lateBy_18 : decode cX11_lateBy 18 = .ok (.iload_n 3, 1) := by decide +kernel
theorem dX11_lateBy_19 : decode cX11_lateBy 19 = .ok (.if_icmp .ne 8, 3) := by decide +kernel
theorem dX11_lateBy_22 : decode cX11_lateBy 22 = .ok (.iload_n 1, 1) := by decide +kernel
theorem dX11_lateBy_23 : decode cX11_lateBy 23 = .ok (.iload_n 2, 1) := by decide +kernel
theorem dX11_lateBy_24 : decode cX11_lateBy 24 = .ok (.if_icmp .ne 5, 3) := by decide +kernel
theorem dX11_lateBy_27 : decode cX11_lateBy 27 = .ok (.iconst (-1), 1) := by decide +kernel
theorem dX11_lateBy_28 : decode cX11_lateBy 28 = .ok (.ireturn, 1) := by decide +kernel
theorem dX11_lateBy_29 : decode cX11_lateBy 29 = .ok (.aload_n 0, 1) := by decide +kernel
theorem dX11_lateBy_30 : decode cX11_lateBy 30 = .ok (.getfield 22, 3) := by decide +kernel
theorem dX11_lateBy_33 : decode cX11_lateBy 33 = .ok (.bipush 7, 2) := by decide +kernel
theorem dX11_lateBy_35 : decode cX11_lateBy 35 = .ok (.iload_n 3, 1) := by decide +kernel
theorem dX11_lateBy_36 : decode cX11_lateBy 36 = .ok (.imul, 1) := by decide +kernel
theorem dX11_lateBy_37 : decode cX11_lateBy 37 = .ok (.iconst 1, 1) := by decide +kernel
theorem dX11_lateBy_38 : decode cX11_lateBy 38 = .ok (.iadd, 1) := by decide +kernel
theorem dX11_lateBy_39 : decode cX11_lateBy 39 = .ok (.iaload, 1) := by decide +kernel
theorem dX11_lateBy_40 : decode cX11_lateBy 40 = .ok (.istore 4, 2) := by decide +kernel
theorem dX11_lateBy_42 : decode cX11_lateBy 42 = .ok (.aload_n 0, 1) := by decide +kernel
theorem dX11_lateBy_43 : decode cX11_lateBy 43 = .ok (.getfield 22, 3) := by decide +kernel
theorem dX11_lateBy_46 : decode cX11_lateBy 46 = .ok (.bipush 7, 2) := by decide +kernel
theorem dX11_lateBy_48 : decode cX11_lateBy 48 = .ok (.iload_n 3, 1) := by decide +kernel
theorem dX11_lateBy_49 : decode cX11_lateBy 49 = .ok (.imul, 1) := by decide +kernel
theorem dX11_lateBy_50 : decode cX11_lateBy 50 = .ok (.iaload, 1) := by decide +kernel
theorem dX11_lateBy_51 : decode cX11_lateBy 51 = .ok (.istore 5, 2) := by decide +kernel
theorem dX11_lateBy_53 : decode cX11_lateBy 53 = .ok (.aload_n 0, 1) := by decide +kernel
theorem dX11_lateBy_54 : decode cX11_lateBy 54 = .ok (.iload_n 3, 1) := by decide +kernel
theorem dX11_lateBy_55 : decode cX11_lateBy 55 = .ok (.iload_n 2, 1) := by decide +kernel
theorem dX11_lateBy_56 : decode cX11_lateBy 56 = .ok (.invokevirtual 139, 3) := by decide +kernel
theorem dX11_lateBy_59 : decode cX11_lateBy 59 = .ok (.aload_n 0, 1) := by decide +kernel
theorem dX11_lateBy_60 : decode cX11_lateBy 60 = .ok (.iload_n 3, 1) := by decide +kernel
theorem dX11_lateBy_61 : decode cX11_lateBy 61 = .ok (.iload_n 1, 1) := by decide +kernel
theorem dX11_lateBy_62 : decode cX11_lateBy 62 = .ok (.invokevirtual 139, 3) := by decide +kernel
theorem dX11_lateBy_65 : decode cX11_lateBy 65 = .ok (.isub, 1) := by decide +kernel
theorem dX11_lateBy_66 : decode cX11_lateBy 66 = .ok (.iload 4, 2) := by decide +kernel
theorem dX11_lateBy_68 : decode cX11_lateBy 68 = .ok (.iadd, 1) := by decide +kernel
theorem dX11_lateBy_69 : decode cX11_lateBy 69 = .ok (.iload 4, 2) := by decide +kernel
theorem dX11_lateBy_71 : decode cX11_lateBy 71 = .ok (.irem, 1) := by decide +kernel
theorem dX11_lateBy_72 : decode cX11_lateBy 72 = .ok (.istore 6, 2) := by decide +kernel
theorem dX11_lateBy_74 : decode cX11_lateBy 74 = .ok (.iload 5, 2) := by decide +kernel
theorem dX11_lateBy_76 : decode cX11_lateBy 76 = .ok (.iconst 1, 1) := by decide +kernel
theorem dX11_lateBy_77 : decode cX11_lateBy 77 = .ok (.if_icmp .ne 8, 3) := by decide +kernel
theorem dX11_lateBy_80 : decode cX11_lateBy 80 = .ok (.iload 6, 2) := by decide +kernel
theorem dX11_lateBy_82 : decode cX11_lateBy 82 = .ok (.goto 24, 3) := by decide +kernel
theorem dX11_lateBy_85 : decode cX11_lateBy 85 = .ok (.iload 5, 2) := by decide +kernel
theorem dX11_lateBy_87 : decode cX11_lateBy 87 = .ok (.iconst 3, 1) := by decide +kernel
theorem dX11_lateBy_88 : decode cX11_lateBy 88 = .ok (.if_icmp .ne 17, 3) := by decide +kernel
theorem dX11_lateBy_91 : decode cX11_lateBy 91 = .ok (.aload_n 0, 1) := by decide +kernel
theorem dX11_lateBy_92 : decode cX11_lateBy 92 = .ok (.getfield 22, 3) := by decide +kernel
theorem dX11_lateBy_95 : decode cX11_lateBy 95 = .ok (.bipush 7, 2) := by decide +kernel
theorem dX11_lateBy_97 : decode cX11_lateBy 97 = .ok (.iload_n 3, 1) := by decide +kernel
theorem dX11_lateBy_98 : decode cX11_lateBy 98 = .ok (.imul, 1) := by decide +kernel
theorem dX11_lateBy_99 : decode cX11_lateBy 99 = .ok (.iconst 2, 1) := by decide +kernel
theorem dX11_lateBy_100 : decode cX11_lateBy 100 = .ok (.iadd, 1) := by decide +kernel
theorem dX11_lateBy_101 : decode cX11_lateBy 101 = .ok (.iaload, 1) := by decide +kernel
theorem dX11_lateBy_102 : decode cX11_lateBy 102 = .ok (.goto 4, 3) := by decide +kernel
theorem dX11_lateBy_105 : decode cX11_lateBy 105 = .ok (.iconst 0, 1) := by decide +kernel
theorem dX11_lateBy_106 : decode cX11_lateBy 106 = .ok (.ireturn, 1) := by decide +kernel
theorem dX11_feltOf_0 : decode cX11_feltOf 0 = .ok (.iconst 0, 1) := by decide +kernel
theorem dX11_feltOf_1 : decode cX11_feltOf 1 = .ok (.istore 5, 2) := by decide +kernel
theorem dX11_feltOf_3 : decode cX11_feltOf 3 = .ok (.iconst 0, 1) := by decide +kernel
theorem dX11_feltOf_4 : decode cX11_feltOf 4 = .ok (.istore 6, 2) := by decide +kernel
theorem dX11_feltOf_6 : decode cX11_feltOf 6 = .ok (.iload 6, 2) := by decide +kernel
theorem dX11_feltOf_8 : decode cX11_feltOf 8 = .ok (.iload 4, 2) := by decide +kernel
theorem dX11_feltOf_10 : decode cX11_feltOf 10 = .ok (.if_icmp .ge 66, 3) := by decide +kernel
theorem dX11_feltOf_13 : decode cX11_feltOf 13 = .ok (.aload_n 0, 1) := by decide +kernel
theorem dX11_feltOf_14 : decode cX11_feltOf 14 = .ok (.aload_n 0, 1) := by decide +kernel
theorem dX11_feltOf_15 : decode cX11_feltOf 15 = .ok (.getfield 28, 3) := by decide +kernel
theorem dX11_feltOf_18 : decode cX11_feltOf 18 = .ok (.iconst 2, 1) := by decide +kernel
theorem dX11_feltOf_19 : decode cX11_feltOf 19 = .ok (.iload 6, 2) := by decide +kernel
theorem dX11_feltOf_21 : decode cX11_feltOf 21 = .ok (.imul, 1) := by decide +kernel
theorem dX11_feltOf_22 : decode cX11_feltOf 22 = .ok (.iaload, 1) := by decide +kernel
theorem dX11_feltOf_23 : decode cX11_feltOf 23 = .ok (.iload_n 1, 1) := by decide +kernel
theorem dX11_feltOf_24 : decode cX11_feltOf 24 = .ok (.invokevirtual 142, 3) := by decide +kernel
theorem dX11_feltOf_27 : decode cX11_feltOf 27 = .ok (.istore 7, 2) := by decide +kernel
theorem dX11_feltOf_29 : decode cX11_feltOf 29 = .ok (.iload 5, 2) := by decide +kernel
theorem dX11_feltOf_31 : decode cX11_feltOf 31 = .ok (.iload 7, 2) := by decide +kernel
theorem dX11_feltOf_33 : decode cX11_feltOf 33 = .ok (.iconst (-1), 1) := by decide +kernel
theorem dX11_feltOf_34 : decode cX11_feltOf 34 = .ok (.if_icmp .eq 32, 3) := by decide +kernel
theorem dX11_feltOf_37 : decode cX11_feltOf 37 = .ok (.aload_n 0, 1) := by decide +kernel
theorem dX11_feltOf_38 : decode cX11_feltOf 38 = .ok (.getfield 28, 3) := by decide +kernel
theorem dX11_feltOf_41 : decode cX11_feltOf 41 = .ok (.iconst 2, 1) := by decide +kernel
theorem dX11_feltOf_42 : decode cX11_feltOf 42 = .ok (.iload 6, 2) := by decide +kernel
theorem dX11_feltOf_44 : decode cX11_feltOf 44 = .ok (.imul, 1) := by decide +kernel
theorem dX11_feltOf_45 : decode cX11_feltOf 45 = .ok (.iconst 1, 1) := by decide +kernel
theorem dX11_feltOf_46 : decode cX11_feltOf 46 = .ok (.iadd, 1) := by decide +kernel
theorem dX11_feltOf_47 : decode cX11_feltOf 47 = .ok (.iaload, 1) := by decide +kernel
theorem dX11_feltOf_48 : decode cX11_feltOf 48 = .ok (.iload 7, 2) := by decide +kernel
theorem dX11_feltOf_50 : decode cX11_feltOf 50 = .ok (.iadd, 1) := by decide +kernel
theorem dX11_feltOf_51 : decode cX11_feltOf 51 = .ok (.i2l, 1) := by decide +kernel
theorem dX11_feltOf_52 : decode cX11_feltOf 52 = .ok (.iload_n 2, 1) := by decide +kernel
theorem dX11_feltOf_53 : decode cX11_feltOf 53 = .ok (.i2l, 1) := by decide +kernel
theorem dX11_feltOf_54 : decode cX11_feltOf 54 = .ok (.iload_n 3, 1) := by decide +kernel
theorem dX11_feltOf_55 : decode cX11_feltOf 55 = .ok (.i2l, 1) := by decide +kernel
theorem dX11_feltOf_56 : decode cX11_feltOf 56 = .ok (.invokestatic 70, 3) := by decide +kernel
theorem dX11_feltOf_59 : decode cX11_feltOf 59 = .ok (.ifCond .eq 7, 3) := by decide +kernel
theorem dX11_feltOf_62 : decode cX11_feltOf 62 = .ok (.iconst 1, 1) := by decide +kernel
theorem dX11_feltOf_63 : decode cX11_feltOf 63 = .ok (.goto 4, 3) := by decide +kernel
theorem dX11_feltOf_66 : decode cX11_feltOf 66 = .ok (.iconst 0, 1) := by decide +kernel
theorem dX11_feltOf_67 : decode cX11_feltOf 67 = .ok (.iadd, 1) := by decide +kernel
theorem dX11_feltOf_68 : decode cX11_feltOf 68 = .ok (.istore 5, 2) := by decide +kernel
theorem dX11_feltOf_70 : decode cX11_feltOf 70 = .ok (.iinc 6 1, 3) := by decide +kernel
theorem dX11_feltOf_73 : decode cX11_feltOf 73 = .ok (.goto (-67), 3) := by decide +kernel
theorem dX11_feltOf_76 : decode cX11_feltOf 76 = .ok (.iload 5, 2) := by decide +kernel
theorem dX11_feltOf_78 : decode cX11_feltOf 78 = .ok (.ireturn, 1) := by decide +kernel
theorem dX11_areMinutes_0 : decode cX11_areMinutes 0 = .ok (.iload_n 0, 1) := by decide +kernel
theorem dX11_areMinutes_1 : decode cX11_areMinutes 1 = .ok (.i2l, 1) := by decide +kernel
theorem dX11_areMinutes_2 : decode cX11_areMinutes 2 = .ok (.lconst 0, 1) := by decide +kernel
theorem dX11_areMinutes_3 : decode cX11_areMinutes 3 = .ok (.ldc2_w 145, 3) := by decide +kernel
theorem dX11_areMinutes_6 : decode cX11_areMinutes 6 = .ok (.invokestatic 70, 3) := by decide +kernel
theorem dX11_areMinutes_9 : decode cX11_areMinutes 9 = .ok (.ifCond .eq 20, 3) := by decide +kernel
theorem dX11_areMinutes_12 : decode cX11_areMinutes 12 = .ok (.iload_n 1, 1) := by decide +kernel
theorem dX11_areMinutes_13 : decode cX11_areMinutes 13 = .ok (.i2l, 1) := by decide +kernel
theorem dX11_areMinutes_14 : decode cX11_areMinutes 14 = .ok (.iload_n 0, 1) := by decide +kernel
theorem dX11_areMinutes_15 : decode cX11_areMinutes 15 = .ok (.i2l, 1) := by decide +kernel
theorem dX11_areMinutes_16 : decode cX11_areMinutes 16 = .ok (.ldc2_w 145, 3) := by decide +kernel
theorem dX11_areMinutes_19 : decode cX11_areMinutes 19 = .ok (.invokestatic 70, 3) := by decide +kernel
theorem dX11_areMinutes_22 : decode cX11_areMinutes 22 = .ok (.ifCond .eq 7, 3) := by decide +kernel
theorem dX11_areMinutes_25 : decode cX11_areMinutes 25 = .ok (.iconst 1, 1) := by decide +kernel
theorem dX11_areMinutes_26 : decode cX11_areMinutes 26 = .ok (.goto 4, 3) := by decide +kernel
theorem dX11_areMinutes_29 : decode cX11_areMinutes 29 = .ok (.iconst 0, 1) := by decide +kernel
theorem dX11_areMinutes_30 : decode cX11_areMinutes 30 = .ok (.ireturn, 1) := by decide +kernel
theorem dX11_felt_0 : decode cX11_felt 0 = .ok (.iload_n 1, 1) := by decide +kernel
theorem dX11_felt_1 : decode cX11_felt 1 = .ok (.invokestatic 82, 3) := by decide +kernel
theorem dX11_felt_4 : decode cX11_felt 4 = .ok (.ifCond .ne 6, 3) := by decide +kernel
theorem dX11_felt_7 : decode cX11_felt 7 = .ok (.bipush (-101), 2) := by decide +kernel
theorem dX11_felt_9 : decode cX11_felt 9 = .ok (.ireturn, 1) := by decide +kernel
theorem dX11_felt_10 : decode cX11_felt 10 = .ok (.iload_n 2, 1) := by decide +kernel
theorem dX11_felt_11 : decode cX11_felt 11 = .ok (.iload_n 3, 1) := by decide +kernel
theorem dX11_felt_12 : decode cX11_felt 12 = .ok (.invokestatic 147, 3) := by decide +kernel
theorem dX11_felt_15 : decode cX11_felt 15 = .ok (.ifCond .eq 17, 3) := by decide +kernel
theorem dX11_felt_18 : decode cX11_felt 18 = .ok (.aload_n 0, 1) := by decide +kernel
theorem dX11_felt_19 : decode cX11_felt 19 = .ok (.iload_n 1, 1) := by decide +kernel
theorem dX11_felt_20 : decode cX11_felt 20 = .ok (.iload_n 2, 1) := by decide +kernel
theorem dX11_felt_21 : decode cX11_felt 21 = .ok (.iload_n 3, 1) := by decide +kernel
theorem dX11_felt_22 : decode cX11_felt 22 = .ok (.aload_n 0, 1) := by decide +kernel
theorem dX11_felt_23 : decode cX11_felt 23 = .ok (.getfield 120, 3) := by decide +kernel
theorem dX11_felt_26 : decode cX11_felt 26 = .ok (.invokevirtual 151, 3) := by decide +kernel
theorem dX11_felt_29 : decode cX11_felt 29 = .ok (.goto 5, 3) := by decide +kernel
theorem dX11_felt_32 : decode cX11_felt 32 = .ok (.bipush (-102), 2) := by decide +kernel
theorem dX11_felt_34 : decode cX11_felt 34 = .ok (.ireturn, 1) := by decide +kernel
theorem dX11_term_0 : decode cX11_term 0 = .ok (.lload_n 0, 1) := by decide +kernel
theorem dX11_term_1 : decode cX11_term 1 = .ok (.lstore 5, 2) := by decide +kernel
theorem dX11_term_3 : decode cX11_term 3 = .ok (.lload_n 2, 1) := by decide +kernel
theorem dX11_term_4 : decode cX11_term 4 = .ok (.lstore 7, 2) := by decide +kernel
theorem dX11_term_6 : decode cX11_term 6 = .ok (.lload 5, 2) := by decide +kernel
theorem dX11_term_8 : decode cX11_term 8 = .ok (.lconst 0, 1) := by decide +kernel
theorem dX11_term_9 : decode cX11_term 9 = .ok (.lcmp, 1) := by decide +kernel
theorem dX11_term_10 : decode cX11_term 10 = .ok (.ifCond .eq 21, 3) := by decide +kernel
theorem dX11_term_13 : decode cX11_term 13 = .ok (.lload 7, 2) := by decide +kernel
theorem dX11_term_15 : decode cX11_term 15 = .ok (.lload 5, 2) := by decide +kernel
theorem dX11_term_17 : decode cX11_term 17 = .ok (.lrem, 1) := by decide +kernel
theorem dX11_term_18 : decode cX11_term 18 = .ok (.lstore 9, 2) := by decide +kernel
theorem dX11_term_20 : decode cX11_term 20 = .ok (.lload 5, 2) := by decide +kernel
theorem dX11_term_22 : decode cX11_term 22 = .ok (.lstore 7, 2) := by decide +kernel
theorem dX11_term_24 : decode cX11_term 24 = .ok (.lload 9, 2) := by decide +kernel
theorem dX11_term_26 : decode cX11_term 26 = .ok (.lstore 5, 2) := by decide +kernel
theorem dX11_term_28 : decode cX11_term 28 = .ok (.goto (-22), 3) := by decide +kernel
theorem dX11_term_31 : decode cX11_term 31 = .ok (.iload 4, 2) := by decide +kernel
theorem dX11_term_33 : decode cX11_term 33 = .ok (.ifCond .ne 10, 3) := by decide +kernel
theorem dX11_term_36 : decode cX11_term 36 = .ok (.lload_n 0, 1) := by decide +kernel
theorem dX11_term_37 : decode cX11_term 37 = .ok (.lload 7, 2) := by decide +kernel
theorem dX11_term_39 : decode cX11_term 39 = .ok (.ldiv, 1) := by decide +kernel
theorem dX11_term_40 : decode cX11_term 40 = .ok (.goto 7, 3) := by decide +kernel
theorem dX11_term_43 : decode cX11_term 43 = .ok (.lload_n 2, 1) := by decide +kernel
theorem dX11_term_44 : decode cX11_term 44 = .ok (.lload 7, 2) := by decide +kernel
theorem dX11_term_46 : decode cX11_term 46 = .ok (.ldiv, 1) := by decide +kernel
theorem dX11_term_47 : decode cX11_term 47 = .ok (.lreturn, 1) := by decide +kernel
theorem dX11_isPart_0 : decode cX11_isPart 0 = .ok (.iload_n 0, 1) := by decide +kernel
theorem dX11_isPart_1 : decode cX11_isPart 1 = .ok (.i2l, 1) := by decide +kernel
theorem dX11_isPart_2 : decode cX11_isPart 2 = .ok (.lconst 0, 1) := by decide +kernel
theorem dX11_isPart_3 : decode cX11_isPart 3 = .ok (.lconst 1, 1) := by decide +kernel
theorem dX11_isPart_4 : decode cX11_isPart 4 = .ok (.invokestatic 70, 3) := by decide +kernel
theorem dX11_isPart_7 : decode cX11_isPart 7 = .ok (.ireturn, 1) := by decide +kernel
theorem dX11_surely_0 : decode cX11_surely 0 = .ok (.iload_n 1, 1) := by decide +kernel
theorem dX11_surely_1 : decode cX11_surely 1 = .ok (.invokestatic 82, 3) := by decide +kernel
theorem dX11_surely_4 : decode cX11_surely 4 = .ok (.ifCond .ne 7, 3) := by decide +kernel
theorem dX11_surely_7 : decode cX11_surely 7 = .ok (.ldc2_w 155, 3) := by decide +kernel
theorem dX11_surely_10 : decode cX11_surely 10 = .ok (.lreturn, 1) := by decide +kernel
theorem dX11_surely_11 : decode cX11_surely 11 = .ok (.iload_n 2, 1) := by decide +kernel
theorem dX11_surely_12 : decode cX11_surely 12 = .ok (.iload_n 3, 1) := by decide +kernel
theorem dX11_surely_13 : decode cX11_surely 13 = .ok (.invokestatic 147, 3) := by decide +kernel
theorem dX11_surely_16 : decode cX11_surely 16 = .ok (.ifCond .eq 11, 3) := by decide +kernel
theorem dX11_surely_19 : decode cX11_surely 19 = .ok (.iload 4, 2) := by decide +kernel
theorem dX11_surely_21 : decode cX11_surely 21 = .ok (.invokestatic 157, 3) := by decide +kernel
theorem dX11_surely_24 : decode cX11_surely 24 = .ok (.ifCond .ne 7, 3) := by decide +kernel
theorem dX11_surely_27 : decode cX11_surely 27 = .ok (.ldc2_w 160, 3) := by decide +kernel
theorem dX11_surely_30 : decode cX11_surely 30 = .ok (.lreturn, 1) := by decide +kernel
theorem dX11_surely_31 : decode cX11_surely 31 = .ok (.aload_n 0, 1) := by decide +kernel
theorem dX11_surely_32 : decode cX11_surely 32 = .ok (.iload_n 1, 1) := by decide +kernel
theorem dX11_surely_33 : decode cX11_surely 33 = .ok (.iload_n 2, 1) := by decide +kernel
theorem dX11_surely_34 : decode cX11_surely 34 = .ok (.iload_n 3, 1) := by decide +kernel
theorem dX11_surely_35 : decode cX11_surely 35 = .ok (.aload_n 0, 1) := by decide +kernel
theorem dX11_surely_36 : decode cX11_surely 36 = .ok (.getfield 120, 3) := by decide +kernel
theorem dX11_surely_39 : decode cX11_surely 39 = .ok (.invokevirtual 151, 3) := by decide +kernel
theorem dX11_surely_42 : decode cX11_surely 42 = .ok (.istore 5, 2) := by decide +kernel
theorem dX11_surely_44 : decode cX11_surely 44 = .ok (.aload_n 0, 1) := by decide +kernel
theorem dX11_surely_45 : decode cX11_surely 45 = .ok (.getfield 25, 3) := by decide +kernel
theorem dX11_surely_48 : decode cX11_surely 48 = .ok (.iload_n 1, 1) := by decide +kernel
theorem dX11_surely_49 : decode cX11_surely 49 = .ok (.iaload, 1) := by decide +kernel
theorem dX11_surely_50 : decode cX11_surely 50 = .ok (.iconst (-1), 1) := by decide +kernel
theorem dX11_surely_51 : decode cX11_surely 51 = .ok (.if_icmp .eq 25, 3) := by decide +kernel
theorem dX11_surely_54 : decode cX11_surely 54 = .ok (.aload_n 0, 1) := by decide +kernel
theorem dX11_surely_55 : decode cX11_surely 55 = .ok (.getfield 22, 3) := by decide +kernel
theorem dX11_surely_58 : decode cX11_surely 58 = .ok (.bipush 7, 2) := by decide +kernel
theorem dX11_surely_60 : decode cX11_surely 60 = .ok (.aload_n 0, 1) := by decide +kernel
theorem dX11_surely_61 : decode cX11_surely 61 = .ok (.getfield 25, 3) := by decide +kernel
theorem dX11_surely_64 : decode cX11_surely 64 = .ok (.iload_n 1, 1) := by decide +kernel
theorem dX11_surely_65 : decode cX11_surely 65 = .ok (.iaload, 1) := by decide +kernel
theorem dX11_surely_66 : decode cX11_surely 66 = .ok (.imul, 1) := by decide +kernel
theorem dX11_surely_67 : decode cX11_surely 67 = .ok (.iaload, 1) := by decide +kernel
theorem dX11_surely_68 : decode cX11_surely 68 = .ok (.iconst 2, 1) := by decide +kernel
theorem dX11_surely_69 : decode cX11_surely 69 = .ok (.if_icmp .ne 7, 3) := by decide +kernel
theorem dX11_surely_72 : decode cX11_surely 72 = .ok (.iconst 1, 1) := by decide +kernel
theorem dX11_surely_73 : decode cX11_surely 73 = .ok (.goto 4, 3) := by decide +kernel
theorem dX11_surely_76 : decode cX11_surely 76 = .ok (.iconst 0, 1) := by decide +kernel
theorem dX11_surely_77 : decode cX11_surely 77 = .ok (.istore 6, 2) := by decide +kernel
theorem dX11_surely_79 : decode cX11_surely 79 = .ok (.iload 5, 2) := by decide +kernel
theorem dX11_surely_81 : decode cX11_surely 81 = .ok (.ifCond .eq 8, 3) := by decide +kernel
theorem dX11_surely_84 : decode cX11_surely 84 = .ok (.iload 6, 2) := by decide +kernel
theorem dX11_surely_86 : decode cX11_surely 86 = .ok (.ifCond .ne 20, 3) := by decide +kernel
theorem dX11_surely_89 : decode cX11_surely 89 = .ok (.iload 5, 2) := by decide +kernel
theorem dX11_surely_91 : decode cX11_surely 91 = .ok (.ifCond .le 7, 3) := by decide +kernel
theorem dX11_surely_94 : decode cX11_surely 94 = .ok (.lconst 1, 1) := by decide +kernel
theorem dX11_surely_95 : decode cX11_surely 95 = .ok (.goto 4, 3) := by decide +kernel
theorem dX11_surely_98 : decode cX11_surely 98 = .ok (.lconst 0, 1) := by decide +kernel
theorem dX11_surely_99 : decode cX11_surely 99 = .ok (.lconst 1, 1) := by decide +kernel
theorem dX11_surely_100 : decode cX11_surely 100 = .ok (.iload 4, 2) := by decide +kernel
theorem dX11_surely_102 : decode cX11_surely 102 = .ok (.invokestatic 162, 3) := by decide +kernel
theorem dX11_surely_105 : decode cX11_surely 105 = .ok (.lreturn, 1) := by decide +kernel
theorem dX11_surely_106 : decode cX11_surely 106 = .ok (.lconst 1, 1) := by decide +kernel
theorem dX11_surely_107 : decode cX11_surely 107 = .ok (.lstore 7, 2) := by decide +kernel
theorem dX11_surely_109 : decode cX11_surely 109 = .ok (.lconst 1, 1) := by decide +kernel
theorem dX11_surely_110 : decode cX11_surely 110 = .ok (.lstore 9, 2) := by decide +kernel
theorem dX11_surely_112 : decode cX11_surely 112 = .ok (.iconst 0, 1) := by decide +kernel
theorem dX11_surely_113 : decode cX11_surely 113 = .ok (.istore 11, 2) := by decide +kernel
theorem dX11_surely_115 : decode cX11_surely 115 = .ok (.iload 11, 2) := by decide +kernel
theorem dX11_surely_117 : decode cX11_surely 117 = .ok (.iload 5, 2) := by decide +kernel
theorem dX11_surely_119 : decode cX11_surely 119 = .ok (.if_icmp .ge 42, 3) := by decide +kernel
theorem dX11_surely_122 : decode cX11_surely 122 = .ok (.lload 7, 2) := by decide +kernel
theorem dX11_surely_124 : decode cX11_surely 124 = .ok (.bipush 10, 2) := by decide +kernel
theorem dX11_surely_126 : decode cX11_surely 126 = .ok (.aload_n 0, 1) := by decide +kernel
theorem dX11_surely_127 : decode cX11_surely 127 = .ok (.getfield 22, 3) := by decide +kernel
theorem dX11_surely_130 : decode cX11_surely 130 = .ok (.bipush 7, 2) := by decide +kernel
theorem dX11_surely_132 : decode cX11_surely 132 = .ok (.aload_n 0, 1) := by decide +kernel
theorem dX11_surely_133 : decode cX11_surely 133 = .ok (.getfield 25, 3) := by decide +kernel
theorem dX11_surely_136 : decode cX11_surely 136 = .ok (.iload_n 1, 1) := by decide +kernel
theorem dX11_surely_137 : decode cX11_surely 137 = .ok (.iaload, 1) := by decide +kernel
theorem dX11_surely_138 : decode cX11_surely 138 = .ok (.imul, 1) := by decide +kernel
theorem dX11_surely_139 : decode cX11_surely 139 = .ok (.iconst 2, 1) := by decide +kernel
theorem dX11_surely_140 : decode cX11_surely 140 = .ok (.iadd, 1) := by decide +kernel
theorem dX11_surely_141 : decode cX11_surely 141 = .ok (.iaload, 1) := by decide +kernel
theorem dX11_surely_142 : decode cX11_surely 142 = .ok (.isub, 1) := by decide +kernel
theorem dX11_surely_143 : decode cX11_surely 143 = .ok (.i2l, 1) := by decide +kernel
theorem dX11_surely_144 : decode cX11_surely 144 = .ok (.lmul, 1) := by decide +kernel
theorem dX11_surely_145 : decode cX11_surely 145 = .ok (.lstore 7, 2) := by decide +kernel
theorem dX11_surely_147 : decode cX11_surely 147 = .ok (.lload 9, 2) := by decide +kernel
theorem dX11_surely_149 : decode cX11_surely 149 = .ok (.ldc2_w 166, 3) := by decide +kernel
theorem dX11_surely_152 : decode cX11_surely 152 = .ok (.lmul, 1) := by decide +kernel
theorem dX11_surely_153 : decode cX11_surely 153 = .ok (.lstore 9, 2) := by decide +kernel
theorem dX11_surely_155 : decode cX11_surely 155 = .ok (.iinc 11 1, 3) := by decide +kernel
theorem dX11_surely_158 : decode cX11_surely 158 = .ok (.goto (-43), 3) := by decide +kernel
theorem dX11_surely_161 : decode cX11_surely 161 = .ok (.lload 9, 2) := by decide +kernel
theorem dX11_surely_163 : decode cX11_surely 163 = .ok (.lload 7, 2) := by decide +kernel
theorem dX11_surely_165 : decode cX11_surely 165 = .ok (.lsub, 1) := by decide +kernel
theorem dX11_surely_166 : decode cX11_surely 166 = .ok (.lload 9, 2) := by decide +kernel
theorem dX11_surely_168 : decode cX11_surely 168 = .ok (.iload 4, 2) := by decide +kernel
theorem dX11_surely_170 : decode cX11_surely 170 = .ok (.invokestatic 162, 3) := by decide +kernel
theorem dX11_surely_173 : decode cX11_surely 173 = .ok (.lreturn, 1) := by decide +kernel
theorem dX11_isOver_0 : decode cX11_isOver 0 = .ok (.iconst 0, 1) := by decide +kernel
theorem dX11_isOver_1 : decode cX11_isOver 1 = .ok (.istore_n 2, 1) := by decide +kernel
theorem dX11_isOver_2 : decode cX11_isOver 2 = .ok (.iconst 0, 1) := by decide +kernel
theorem dX11_isOver_3 : decode cX11_isOver 3 = .ok (.istore_n 3, 1) := by decide +kernel
theorem dX11_isOver_4 : decode cX11_isOver 4 = .ok (.iload_n 3, 1) := by decide +kernel
theorem dX11_isOver_5 : decode cX11_isOver 5 = .ok (.bipush 10, 2) := by decide +kernel
theorem dX11_isOver_7 : decode cX11_isOver 7 = .ok (.if_icmp .ge 120, 3) := by decide +kernel
theorem dX11_isOver_10 : decode cX11_isOver 10 = .ok (.iconst 0, 1) := by decide +kernel
theorem dX11_isOver_11 : decode cX11_isOver 11 = .ok (.istore 4, 2) := by decide +kernel
theorem dX11_isOver_13 : decode cX11_isOver 13 = .ok (.iload 4, 2) := by decide +kernel
theorem dX11_isOver_15 : decode cX11_isOver 15 = .ok (.bipush 20, 2) := by decide +kernel
theorem dX11_isOver_17 : decode cX11_isOver 17 = .ok (.if_icmp .ge 104, 3) := by decide +kernel
theorem dX11_isOver_20 : decode cX11_isOver 20 = .ok (.aload_n 0, 1) := by decide +kernel
theorem dX11_isOver_21 : decode cX11_isOver 21 = .ok (.iload_n 3, 1) := by decide +kernel
theorem dX11_isOver_22 : decode cX11_isOver 22 = .ok (.bipush 100, 2) := by decide +kernel
theorem dX11_isOver_24 : decode cX11_isOver 24 = .ok (.iload 4, 2) := by decide +kernel
theorem dX11_isOver_26 : decode cX11_isOver 26 = .ok (.imul, 1) := by decide +kernel
theorem dX11_isOver_27 : decode cX11_isOver 27 = .ok (.bipush 100, 2) := by decide +kernel
theorem dX11_isOver_29 : decode cX11_isOver 29 = .ok (.iload 4, 2) := by decide +kernel
theorem dX11_isOver_31 : decode cX11_isOver 31 = .ok (.imul, 1) := by decide +kernel
theorem dX11_isOver_32 : decode cX11_isOver 32 = .ok (.bipush 99, 2) := by decide +kernel
theorem dX11_isOver_34 : decode cX11_isOver 34 = .ok (.iadd, 1) := by decide +kernel
theorem dX11_isOver_35 : decode cX11_isOver 35 = .ok (.iload_n 1, 1) := by decide +kernel
theorem dX11_isOver_36 : decode cX11_isOver 36 = .ok (.invokevirtual 151, 3) := by decide +kernel
theorem dX11_isOver_39 : decode cX11_isOver 39 = .ok (.istore 5, 2) := by decide +kernel
theorem dX11_isOver_41 : decode cX11_isOver 41 = .ok (.iconst 0, 1) := by decide +kernel
theorem dX11_isOver_42 : decode cX11_isOver 42 = .ok (.istore 6, 2) := by decide +kernel
theorem dX11_isOver_44 : decode cX11_isOver 44 = .ok (.iload 6, 2) := by decide +kernel
theorem dX11_isOver_46 : decode cX11_isOver 46 = .ok (.iload_n 1, 1) := by decide +kernel
theorem dX11_isOver_47 : decode cX11_isOver 47 = .ok (.if_icmp .ge 51, 3) := by decide +kernel
theorem dX11_isOver_50 : decode cX11_isOver 50 = .ok (.iload 5, 2) := by decide +kernel
theorem dX11_isOver_52 : decode cX11_isOver 52 = .ok (.aload_n 0, 1) := by decide +kernel
theorem dX11_isOver_53 : decode cX11_isOver 53 = .ok (.getfield 28, 3) := by decide +kernel
theorem dX11_isOver_56 : decode cX11_isOver 56 = .ok (.iconst 2, 1) := by decide +kernel
theorem dX11_isOver_57 : decode cX11_isOver 57 = .ok (.iload 6, 2) := by decide +kernel
theorem dX11_isOver_59 : decode cX11_isOver 59 = .ok (.imul, 1) := by decide +kernel
theorem dX11_isOver_60 : decode cX11_isOver 60 = .ok (.iaload, 1) := by decide +kernel
theorem dX11_isOver_61 : decode cX11_isOver 61 = .ok (.iload_n 3, 1) := by decide +kernel
theorem dX11_isOver_62 : decode cX11_isOver 62 = .ok (.if_icmp .ne 26, 3) := by decide +kernel
theorem dX11_isOver_65 : decode cX11_isOver 65 = .ok (.aload_n 0, 1) := by decide +kernel
theorem dX11_isOver_66 : decode cX11_isOver 66 = .ok (.getfield 28, 3) := by decide +kernel
theorem dX11_isOver_69 : decode cX11_isOver 69 = .ok (.iconst 2, 1) := by decide +kernel
theorem dX11_isOver_70 : decode cX11_isOver 70 = .ok (.iload 6, 2) := by decide +kernel
theorem dX11_isOver_72 : decode cX11_isOver 72 = .ok (.imul, 1) := by decide +kernel
theorem dX11_isOver_73 : decode cX11_isOver 73 = .ok (.iconst 1, 1) := by decide +kernel
theorem dX11_isOver_74 : decode cX11_isOver 74 = .ok (.iadd, 1) := by decide +kernel
theorem dX11_isOver_75 : decode cX11_isOver 75 = .ok (.iaload, 1) := by decide +kernel
theorem dX11_isOver_76 : decode cX11_isOver 76 = .ok (.bipush 100, 2) := by decide +kernel
theorem dX11_isOver_78 : decode cX11_isOver 78 = .ok (.idiv, 1) := by decide +kernel
theorem dX11_isOver_79 : decode cX11_isOver 79 = .ok (.iload 4, 2) := by decide +kernel
theorem dX11_isOver_81 : decode cX11_isOver 81 = .ok (.if_icmp .ne 7, 3) := by decide +kernel
theorem dX11_isOver_84 : decode cX11_isOver 84 = .ok (.iconst 1, 1) := by decide +kernel
theorem dX11_isOver_85 : decode cX11_isOver 85 = .ok (.goto 4, 3) := by decide +kernel
theorem dX11_isOver_88 : decode cX11_isOver 88 = .ok (.iconst 0, 1) := by decide +kernel
theorem dX11_isOver_89 : decode cX11_isOver 89 = .ok (.iadd, 1) := by decide +kernel
theorem dX11_isOver_90 : decode cX11_isOver 90 = .ok (.istore 5, 2) := by decide +kernel
theorem dX11_isOver_92 : decode cX11_isOver 92 = .ok (.iinc 6 1, 3) := by decide +kernel
theorem dX11_isOver_95 : decode cX11_isOver 95 = .ok (.goto (-51), 3) := by decide +kernel
theorem dX11_isOver_98 : decode cX11_isOver 98 = .ok (.iload_n 2, 1) := by decide +kernel
theorem dX11_isOver_99 : decode cX11_isOver 99 = .ok (.ifCond .ne 10, 3) := by decide +kernel
theorem dX11_isOver_102 : decode cX11_isOver 102 = .ok (.iload 5, 2) := by decide +kernel
theorem dX11_isOver_104 : decode cX11_isOver 104 = .ok (.bipush 9, 2) := by decide +kernel
theorem dX11_isOver_106 : decode cX11_isOver 106 = .ok (.if_icmp .le 7, 3) := by decide +kernel
theorem dX11_isOver_109 : decode cX11_isOver 109 = .ok (.iconst 1, 1) := by decide +kernel
theorem dX11_isOver_110 : decode cX11_isOver 110 = .ok (.goto 4, 3) := by decide +kernel
theorem dX11_isOver_113 : decode cX11_isOver 113 = .ok (.iconst 0, 1) := by decide +kernel
theorem dX11_isOver_114 : decode cX11_isOver 114 = .ok (.istore_n 2, 1) := by decide +kernel
theorem dX11_isOver_115 : decode cX11_isOver 115 = .ok (.iinc 4 1, 3) := by decide +kernel
theorem dX11_isOver_118 : decode cX11_isOver 118 = .ok (.goto (-105), 3) := by decide +kernel
theorem dX11_isOver_121 : decode cX11_isOver 121 = .ok (.iinc 3 1, 3) := by decide +kernel
theorem dX11_isOver_124 : decode cX11_isOver 124 = .ok (.goto (-120), 3) := by decide +kernel
theorem dX11_isOver_127 : decode cX11_isOver 127 = .ok (.iload_n 2, 1) := by decide +kernel
theorem dX11_isOver_128 : decode cX11_isOver 128 = .ok (.ireturn, 1) := by decide +kernel
theorem dX11_overOf_0 : decode cX11_overOf 0 = .ok (.iconst 1, 1) := by decide +kernel
theorem dX11_overOf_1 : decode cX11_overOf 1 = .ok (.istore_n 1, 1) := by decide +kernel
theorem dX11_overOf_2 : decode cX11_overOf 2 = .ok (.iload_n 1, 1) := by decide +kernel
theorem dX11_overOf_3 : decode cX11_overOf 3 = .ok (.aload_n 0, 1) := by decide +kernel
theorem dX11_overOf_4 : decode cX11_overOf 4 = .ok (.getfield 120, 3) := by decide +kernel
theorem dX11_overOf_7 : decode cX11_overOf 7 = .ok (.if_icmp .gt 21, 3) := by decide +kernel
theorem dX11_overOf_10 : decode cX11_overOf 10 = .ok (.aload_n 0, 1) := by decide +kernel
theorem dX11_overOf_11 : decode cX11_overOf 11 = .ok (.iload_n 1, 1) := by decide +kernel
theorem dX11_overOf_12 : decode cX11_overOf 12 = .ok (.invokevirtual 168, 3) := by decide +kernel
theorem dX11_overOf_15 : decode cX11_overOf 15 = .ok (.ifCond .eq 7, 3) := by decide +kernel
theorem dX11_overOf_18 : decode cX11_overOf 18 = .ok (.iload_n 1, 1) := by decide +kernel
theorem dX11_overOf_19 : decode cX11_overOf 19 = .ok (.iconst 1, 1) := by decide +kernel
theorem dX11_overOf_20 : decode cX11_overOf 20 = .ok (.isub, 1) := by decide +kernel
theorem dX11_overOf_21 : decode cX11_overOf 21 = .ok (.ireturn, 1) := by decide +kernel
theorem dX11_overOf_22 : decode cX11_overOf 22 = .ok (.iinc 1 1, 3) := by decide +kernel
theorem dX11_overOf_25 : decode cX11_overOf 25 = .ok (.goto (-23), 3) := by decide +kernel
theorem dX11_overOf_28 : decode cX11_overOf 28 = .ok (.iconst (-1), 1) := by decide +kernel
theorem dX11_overOf_29 : decode cX11_overOf 29 = .ok (.ireturn, 1) := by decide +kernel
theorem dX11_over_0 : decode cX11_over 0 = .ok (.aload_n 0, 1) := by decide +kernel
theorem dX11_over_1 : decode cX11_over 1 = .ok (.invokevirtual 171, 3) := by decide +kernel
theorem dX11_over_4 : decode cX11_over 4 = .ok (.ireturn, 1) := by decide +kernel
theorem dX11_mayCome_0 : decode cX11_mayCome 0 = .ok (.aload_n 0, 1) := by decide +kernel
theorem dX11_mayCome_1 : decode cX11_mayCome 1 = .ok (.getfield 31, 3) := by decide +kernel
theorem dX11_mayCome_4 : decode cX11_mayCome 4 = .ok (.bipush 6, 2) := by decide +kernel
theorem dX11_mayCome_6 : decode cX11_mayCome 6 = .ok (.iload_n 1, 1) := by decide +kernel
theorem dX11_mayCome_7 : decode cX11_mayCome 7 = .ok (.imul, 1) := by decide +kernel
theorem dX11_mayCome_8 : decode cX11_mayCome 8 = .ok (.iload_n 2, 1) := by decide +kernel
theorem dX11_mayCome_9 : decode cX11_mayCome 9 = .ok (.iadd, 1) := by decide +kernel
theorem dX11_mayCome_10 : decode cX11_mayCome 10 = .ok (.iload_n 3, 1) := by decide +kernel
theorem dX11_mayCome_11 : decode cX11_mayCome 11 = .ok (.aload_n 0, 1) := by decide +kernel
theorem dX11_mayCome_12 : decode cX11_mayCome 12 = .ok (.getfield 31, 3) := by decide +kernel
theorem dX11_mayCome_15 : decode cX11_mayCome 15 = .ok (.bipush 6, 2) := by decide +kernel
theorem dX11_mayCome_17 : decode cX11_mayCome 17 = .ok (.iload_n 1, 1) := by decide +kernel
theorem dX11_mayCome_18 : decode cX11_mayCome 18 = .ok (.imul, 1) := by decide +kernel
theorem dX11_mayCome_19 : decode cX11_mayCome 19 = .ok (.iload_n 2, 1) := by decide +kernel
theorem dX11_mayCome_20 : decode cX11_mayCome 20 = .ok (.iadd, 1) := by decide +kernel
theorem dX11_mayCome_21 : decode cX11_mayCome 21 = .ok (.iaload, 1) := by decide +kernel
theorem dX11_mayCome_22 : decode cX11_mayCome 22 = .ok (.if_icmp .ge 7, 3) := by decide +kernel
theorem dX11_mayCome_25 : decode cX11_mayCome 25 = .ok (.iload_n 3, 1) := by decide +kernel
theorem dX11_mayCome_26 : decode cX11_mayCome 26 = .ok (.goto 14, 3) := by decide +kernel
theorem dX11_mayCome_29 : decode cX11_mayCome 29 = .ok (.aload_n 0, 1) := by decide +kernel
theorem dX11_mayCome_30 : decode cX11_mayCome 30 = .ok (.getfield 31, 3) := by decide +kernel
theorem dX11_mayCome_33 : decode cX11_mayCome 33 = .ok (.bipush 6, 2) := by decide +kernel
theorem dX11_mayCome_35 : decode cX11_mayCome 35 = .ok (.iload_n 1, 1) := by decide +kernel
theorem dX11_mayCome_36 : decode cX11_mayCome 36 = .ok (.imul, 1) := by decide +kernel
theorem dX11_mayCome_37 : decode cX11_mayCome 37 = .ok (.iload_n 2, 1) := by decide +kernel
theorem dX11_mayCome_38 : decode cX11_mayCome 38 = .ok (.iadd, 1) := by decide +kernel
theorem dX11_mayCome_39 : decode cX11_mayCome 39 = .ok (.iaload, 1) := by decide +kernel
theorem dX11_mayCome_40 : decode cX11_mayCome 40 = .ok (.iastore, 1) := by decide +kernel
theorem dX11_mayCome_41 : decode cX11_mayCome 41 = .ok (.return_, 1) := by decide +kernel
theorem dX11_layTouch_0 : decode cX11_layTouch 0 = .ok (.aload_n 0, 1) := by decide +kernel
theorem dX11_layTouch_1 : decode cX11_layTouch 1 = .ok (.getfield 25, 3) := by decide +kernel
theorem dX11_layTouch_4 : decode cX11_layTouch 4 = .ok (.iload_n 1, 1) := by decide +kernel
theorem dX11_layTouch_5 : decode cX11_layTouch 5 = .ok (.iaload, 1) := by decide +kernel
theorem dX11_layTouch_6 : decode cX11_layTouch 6 = .ok (.istore_n 3, 1) := by decide +kernel
theorem dX11_layTouch_7 : decode cX11_layTouch 7 = .ok (.iload_n 3, 1) := by decide +kernel
theorem dX11_layTouch_8 : decode cX11_layTouch 8 = .ok (.iconst (-1), 1) := by decide +kernel
theorem dX11_layTouch_9 : decode cX11_layTouch 9 = .ok (.if_icmp .eq 16, 3) := by decide +kernel
theorem dX11_layTouch_12 : decode cX11_layTouch 12 = .ok (.aload_n 0, 1) := by decide +kernel
theorem dX11_layTouch_13 : decode cX11_layTouch 13 = .ok (.getfield 22, 3) := by decide +kernel
theorem dX11_layTouch_16 : decode cX11_layTouch 16 = .ok (.bipush 7, 2) := by decide +kernel
theorem dX11_layTouch_18 : decode cX11_layTouch 18 = .ok (.iload_n 3, 1) := by decide +kernel
theorem dX11_layTouch_19 : decode cX11_layTouch 19 = .ok (.imul, 1) := by decide +kernel
theorem dX11_layTouch_20 : decode cX11_layTouch 20 = .ok (.iaload, 1) := by decide +kernel
theorem dX11_layTouch_21 : decode cX11_layTouch 21 = .ok (.iconst 2, 1) := by decide +kernel
theorem dX11_layTouch_22 : decode cX11_layTouch 22 = .ok (.if_icmp .ne 4, 3) := by decide +kernel
theorem dX11_layTouch_25 : decode cX11_layTouch 25 = .ok (.return_, 1) := by decide +kernel
theorem dX11_layTouch_26 : decode cX11_layTouch 26 = .ok (.aload_n 0, 1) := by decide +kernel
theorem dX11_layTouch_27 : decode cX11_layTouch 27 = .ok (.getfield 22, 3) := by decide +kernel
theorem dX11_layTouch_30 : decode cX11_layTouch 30 = .ok (.bipush 7, 2) := by decide +kernel
theorem dX11_layTouch_32 : decode cX11_layTouch 32 = .ok (.iload_n 3, 1) := by decide +kernel
theorem dX11_layTouch_33 : decode cX11_layTouch 33 = .ok (.imul, 1) := by decide +kernel
theorem dX11_layTouch_34 : decode cX11_layTouch 34 = .ok (.iconst 1, 1) := by decide +kernel
theorem dX11_layTouch_35 : decode cX11_layTouch 35 = .ok (.iadd, 1) := by decide +kernel
theorem dX11_layTouch_36 : decode cX11_layTouch 36 = .ok (.iaload, 1) := by decide +kernel
theorem dX11_layTouch_37 : decode cX11_layTouch 37 = .ok (.istore 4, 2) := by decide +kernel
theorem dX11_layTouch_39 : decode cX11_layTouch 39 = .ok (.iconst 1, 1) := by decide +kernel
theorem dX11_layTouch_40 : decode cX11_layTouch 40 = .ok (.istore 5, 2) := by decide +kernel
theorem dX11_layTouch_42 : decode cX11_layTouch 42 = .ok (.iconst 0, 1) := by decide +kernel
theorem dX11_layTouch_43 : decode cX11_layTouch 43 = .ok (.istore 6, 2) := by decide +kernel
theorem dX11_layTouch_45 : decode cX11_layTouch 45 = .ok (.iload 6, 2) := by decide +kernel
theorem dX11_layTouch_47 : decode cX11_layTouch 47 = .ok (.iload 4, 2) := by decide +kernel
theorem dX11_layTouch_49 : decode cX11_layTouch 49 = .ok (.if_icmp .ge 42, 3) := by decide +kernel
theorem dX11_layTouch_52 : decode cX11_layTouch 52 = .ok (.iload 5, 2) := by decide +kernel
theorem dX11_layTouch_54 : decode cX11_layTouch 54 = .ok (.ifCond .eq 28, 3) := by decide +kernel
theorem dX11_layTouch_57 : decode cX11_layTouch 57 = .ok (.iload_n 2, 1) := by decide +kernel
theorem dX11_layTouch_58 : decode cX11_layTouch 58 = .ok (.aload_n 0, 1) := by decide +kernel
theorem dX11_layTouch_59 : decode cX11_layTouch 59 = .ok (.getfield 22, 3) := by decide +kernel
theorem dX11_layTouch_62 : decode cX11_layTouch 62 = .ok (.bipush 7, 2) := by decide +kernel
theorem dX11_layTouch_64 : decode cX11_layTouch 64 = .ok (.iload_n 3, 1) := by decide +kernel
theorem dX11_layTouch_65 : decode cX11_layTouch 65 = .ok (.imul, 1) := by decide +kernel
theorem dX11_layTouch_66 : decode cX11_layTouch 66 = .ok (.iconst 3, 1) := by decide +kernel
theorem dX11_layTouch_67 : decode cX11_layTouch 67 = .ok (.iadd, 1) := by decide +kernel
theorem dX11_layTouch_68 : decode cX11_layTouch 68 = .ok (.iload 6, 2) := by decide +kernel
theorem dX11_layTouch_70 : decode cX11_layTouch 70 = .ok (.iadd, 1) := by decide +kernel
theorem dX11_layTouch_71 : decode cX11_layTouch 71 = .ok (.iaload, 1) := by decide +kernel
theorem dX11_layTouch_72 : decode cX11_layTouch 72 = .ok (.ishr, 1) := by decide +kernel
theorem dX11_layTouch_73 : decode cX11_layTouch 73 = .ok (.iconst 1, 1) := by decide +kernel
theorem dX11_layTouch_74 : decode cX11_layTouch 74 = .ok (.iand, 1) := by decide +kernel
theorem dX11_layTouch_75 : decode cX11_layTouch 75 = .ok (.ifCond .ne 7, 3) := by decide +kernel
theorem dX11_layTouch_78 : decode cX11_layTouch 78 = .ok (.iconst 1, 1) := by decide +kernel
theorem dX11_layTouch_79 : decode cX11_layTouch 79 = .ok (.goto 4, 3) := by decide +kernel
theorem dX11_layTouch_82 : decode cX11_layTouch 82 = .ok (.iconst 0, 1) := by decide +kernel
theorem dX11_layTouch_83 : decode cX11_layTouch 83 = .ok (.istore 5, 2) := by decide +kernel
theorem dX11_layTouch_85 : decode cX11_layTouch 85 = .ok (.iinc 6 1, 3) := by decide +kernel
theorem dX11_layTouch_88 : decode cX11_layTouch 88 = .ok (.goto (-43), 3) := by decide +kernel
theorem dX11_layTouch_91 : decode cX11_layTouch 91 = .ok (.iconst 0, 1) := by decide +kernel
theorem dX11_layTouch_92 : decode cX11_layTouch 92 = .ok (.istore 6, 2) := by decide +kernel
theorem dX11_layTouch_94 : decode cX11_layTouch 94 = .ok (.iload 6, 2) := by decide +kernel
theorem dX11_layTouch_96 : decode cX11_layTouch 96 = .ok (.iload 4, 2) := by decide +kernel
theorem dX11_layTouch_98 : decode cX11_layTouch 98 = .ok (.if_icmp .ge 62, 3) := by decide +kernel
theorem dX11_layTouch_101 : decode cX11_layTouch 101 = .ok (.iload 5, 2) := by decide +kernel
theorem dX11_layTouch_103 : decode cX11_layTouch 103 = .ok (.ifCond .eq 57, 3) := by decide +kernel
theorem dX11_layTouch_106 : decode cX11_layTouch 106 = .ok (.aload_n 0, 1) := by decide +kernel
theorem dX11_layTouch_107 : decode cX11_layTouch 107 = .ok (.getfield 22, 3) := by decide +kernel
theorem dX11_layTouch_110 : decode cX11_layTouch 110 = .ok (.bipush 7, 2) := by decide +kernel
theorem dX11_layTouch_112 : decode cX11_layTouch 112 = .ok (.iload_n 3, 1) := by decide +kernel
theorem dX11_layTouch_113 : decode cX11_layTouch 113 = .ok (.imul, 1) := by decide +kernel
theorem dX11_layTouch_114 : decode cX11_layTouch 114 = .ok (.iconst 3, 1) := by decide +kernel
theorem dX11_layTouch_115 : decode cX11_layTouch 115 = .ok (.iadd, 1) := by decide +kernel
theorem dX11_layTouch_116 : decode cX11_layTouch 116 = .ok (.iload 6, 2) := by decide +kernel
theorem dX11_layTouch_118 : decode cX11_layTouch 118 = .ok (.iadd, 1) := by decide +kernel
theorem dX11_layTouch_119 : decode cX11_layTouch 119 = .ok (.iaload, 1) := by decide +kernel
theorem dX11_layTouch_120 : decode cX11_layTouch 120 = .ok (.istore 7, 2) := by decide +kernel
theorem dX11_layTouch_122 : decode cX11_layTouch 122 = .ok (.iload 7, 2) := by decide +kernel
theorem dX11_layTouch_124 : decode cX11_layTouch 124 = .ok (.iload_n 1, 1) := by decide +kernel
theorem dX11_layTouch_125 : decode cX11_layTouch 125 = .ok (.if_icmp .eq 29, 3) := by decide +kernel
theorem dX11_layTouch_128 : decode cX11_layTouch 128 = .ok (.aload_n 0, 1) := by decide +kernel
theorem dX11_layTouch_129 : decode cX11_layTouch 129 = .ok (.aload_n 0, 1) := by decide +kernel
theorem dX11_layTouch_130 : decode cX11_layTouch 130 = .ok (.getfield 13, 3) := by decide +kernel
theorem dX11_layTouch_133 : decode cX11_layTouch 133 = .ok (.iload_n 1, 1) := by decide +kernel
theorem dX11_layTouch_134 : decode cX11_layTouch 134 = .ok (.iaload, 1) := by decide +kernel
theorem dX11_layTouch_135 : decode cX11_layTouch 135 = .ok (.aload_n 0, 1) := by decide +kernel
theorem dX11_layTouch_136 : decode cX11_layTouch 136 = .ok (.getfield 13, 3) := by decide +kernel
theorem dX11_layTouch_139 : decode cX11_layTouch 139 = .ok (.iload 7, 2) := by decide +kernel
theorem dX11_layTouch_141 : decode cX11_layTouch 141 = .ok (.iaload, 1) := by decide +kernel
theorem dX11_layTouch_142 : decode cX11_layTouch 142 = .ok (.iconst 1, 1) := by decide +kernel
theorem dX11_layTouch_143 : decode cX11_layTouch 143 = .ok (.aload_n 0, 1) := by decide +kernel
theorem dX11_layTouch_144 : decode cX11_layTouch 144 = .ok (.iload_n 1, 1) := by decide +kernel
theorem dX11_layTouch_145 : decode cX11_layTouch 145 = .ok (.iload 7, 2) := by decide +kernel
theorem dX11_layTouch_147 : decode cX11_layTouch 147 = .ok (.invokevirtual 142, 3) := by decide +kernel
theorem dX11_layTouch_150 : decode cX11_layTouch 150 = .ok (.iadd, 1) := by decide +kernel
theorem dX11_layTouch_151 : decode cX11_layTouch 151 = .ok (.invokevirtual 174, 3) := by decide +kernel
theorem dX11_layTouch_154 : decode cX11_layTouch 154 = .ok (.iinc 6 1, 3) := by decide +kernel
theorem dX11_layTouch_157 : decode cX11_layTouch 157 = .ok (.goto (-63), 3) := by decide +kernel
theorem dX11_layTouch_160 : decode cX11_layTouch 160 = .ok (.return_, 1) := by decide +kernel
theorem dX11_layWays_0 : decode cX11_layWays 0 = .ok (.iconst 0, 1) := by decide +kernel
theorem dX11_layWays_1 : decode cX11_layWays 1 = .ok (.istore_n 2, 1) := by decide +kernel
theorem dX11_layWays_2 : decode cX11_layWays 2 = .ok (.iload_n 2, 1) := by decide +kernel
theorem dX11_layWays_3 : decode cX11_layWays 3 = .ok (.bipush 36, 2) := by decide +kernel
theorem dX11_layWays_5 : decode cX11_layWays 5 = .ok (.if_icmp .ge 50, 3) := by decide +kernel
theorem dX11_layWays_8 : decode cX11_layWays 8 = .ok (.aload_n 0, 1) := by decide +kernel
theorem dX11_layWays_9 : decode cX11_layWays 9 = .ok (.getfield 31, 3) := by decide +kernel
theorem dX11_layWays_12 : decode cX11_layWays 12 = .ok (.iload_n 2, 1) := by decide +kernel
theorem dX11_layWays_13 : decode cX11_layWays 13 = .ok (.iload_n 2, 1) := by decide +kernel
theorem dX11_layWays_14 : decode cX11_layWays 14 = .ok (.bipush 6, 2) := by decide +kernel
theorem dX11_layWays_16 : decode cX11_layWays 16 = .ok (.idiv, 1) := by decide +kernel
theorem dX11_layWays_17 : decode cX11_layWays 17 = .ok (.iload_n 2, 1) := by decide +kernel
theorem dX11_layWays_18 : decode cX11_layWays 18 = .ok (.bipush 6, 2) := by decide +kernel
theorem dX11_layWays_20 : decode cX11_layWays 20 = .ok (.irem, 1) := by decide +kernel
theorem dX11_layWays_21 : decode cX11_layWays 21 = .ok (.if_icmp .ne 7, 3) := by decide +kernel
theorem dX11_layWays_24 : decode cX11_layWays 24 = .ok (.iconst 0, 1) := by decide +kernel
theorem dX11_layWays_25 : decode cX11_layWays 25 = .ok (.goto 23, 3) := by decide +kernel
theorem dX11_layWays_28 : decode cX11_layWays 28 = .ok (.aload_n 0, 1) := by decide +kernel
theorem dX11_layWays_29 : decode cX11_layWays 29 = .ok (.getfield 7, 3) := by decide +kernel
theorem dX11_layWays_32 : decode cX11_layWays 32 = .ok (.iload_n 2, 1) := by decide +kernel
theorem dX11_layWays_33 : decode cX11_layWays 33 = .ok (.iaload, 1) := by decide +kernel
theorem dX11_layWays_34 : decode cX11_layWays 34 = .ok (.ifCond .le 12, 3) := by decide +kernel
theorem dX11_layWays_37 : decode cX11_layWays 37 = .ok (.aload_n 0, 1) := by decide +kernel
theorem dX11_layWays_38 : decode cX11_layWays 38 = .ok (.getfield 7, 3) := by decide +kernel
theorem dX11_layWays_41 : decode cX11_layWays 41 = .ok (.iload_n 2, 1) := by decide +kernel
theorem dX11_layWays_42 : decode cX11_layWays 42 = .ok (.iaload, 1) := by decide +kernel
theorem dX11_layWays_43 : decode cX11_layWays 43 = .ok (.goto 5, 3) := by decide +kernel
theorem dX11_layWays_46 : decode cX11_layWays 46 = .ok (.ldc 178, 2) := by decide +kernel
theorem dX11_layWays_48 : decode cX11_layWays 48 = .ok (.iastore, 1) := by decide +kernel
theorem dX11_layWays_49 : decode cX11_layWays 49 = .ok (.iinc 2 1, 3) := by decide +kernel
theorem dX11_layWays_52 : decode cX11_layWays 52 = .ok (.goto (-50), 3) := by decide +kernel
theorem dX11_layWays_55 : decode cX11_layWays 55 = .ok (.iconst 0, 1) := by decide +kernel
theorem dX11_layWays_56 : decode cX11_layWays 56 = .ok (.istore_n 2, 1) := by decide +kernel
theorem dX11_layWays_57 : decode cX11_layWays 57 = .ok (.iload_n 2, 1) := by decide +kernel
theorem dX11_layWays_58 : decode cX11_layWays 58 = .ok (.bipush 10, 2) := by decide +kernel
theorem dX11_layWays_60 : decode cX11_layWays 60 = .ok (.if_icmp .ge 15, 3) := by decide +kernel
theorem dX11_layWays_63 : decode cX11_layWays 63 = .ok (.aload_n 0, 1) := by decide +kernel
theorem dX11_layWays_64 : decode cX11_layWays 64 = .ok (.iload_n 2, 1) := by decide +kernel
theorem dX11_layWays_65 : decode cX11_layWays 65 = .ok (.iload_n 1, 1) := by decide +kernel
theorem dX11_layWays_66 : decode cX11_layWays 66 = .ok (.invokevirtual 179, 3) := by decide +kernel
theorem dX11_layWays_69 : decode cX11_layWays 69 = .ok (.iinc 2 1, 3) := by decide +kernel
theorem dX11_layWays_72 : decode cX11_layWays 72 = .ok (.goto (-15), 3) := by decide +kernel
theorem dX11_layWays_75 : decode cX11_layWays 75 = .ok (.return_, 1) := by decide +kernel
theorem dX11_closeWays_0 : decode cX11_closeWays 0 = .ok (.iconst 0, 1) := by decide +kernel
theorem dX11_closeWays_1 : decode cX11_closeWays 1 = .ok (.istore_n 1, 1) := by decide +kernel
theorem dX11_closeWays_2 : decode cX11_closeWays 2 = .ok (.iload_n 1, 1) := by decide +kernel
theorem dX11_closeWays_3 : decode cX11_closeWays 3 = .ok (.bipush 6, 2) := by decide +kernel
theorem dX11_closeWays_5 : decode cX11_closeWays 5 = .ok (.if_icmp .ge 66, 3) := by decide +kernel
theorem dX11_closeWays_8 : decode cX11_closeWays 8 = .ok (.iconst 0, 1) := by decide +kernel
theorem dX11_closeWays_9 : decode cX11_closeWays 9 = .ok (.istore_n 2, 1) := by decide +kernel
theorem dX11_closeWays_10 : decode cX11_closeWays 10 = .ok (.iload_n 2, 1) := by decide +kernel
theorem dX11_closeWays_11 : decode cX11_closeWays 11 = .ok (.bipush 6, 2) := by decide +kernel
theorem dX11_closeWays_13 : decode cX11_closeWays 13 = .ok (.if_icmp .ge 52, 3) := by decide +kernel
theorem dX11_closeWays_16 : decode cX11_closeWays 16 = .ok (.iconst 0, 1) := by decide +kernel
theorem dX11_closeWays_17 : decode cX11_closeWays 17 = .ok (.istore_n 3, 1) := by decide +kernel
theorem dX11_closeWays_18 : decode cX11_closeWays 18 = .ok (.iload_n 3, 1) := by decide +kernel
theorem dX11_closeWays_19 : decode cX11_closeWays 19 = .ok (.bipush 6, 2) := by decide +kernel
theorem dX11_closeWays_21 : decode cX11_closeWays 21 = .ok (.if_icmp .ge 38, 3) := by decide +kernel
theorem dX11_closeWays_24 : decode cX11_closeWays 24 = .ok (.aload_n 0, 1) := by decide +kernel
theorem dX11_closeWays_25 : decode cX11_closeWays 25 = .ok (.iload_n 2, 1) := by decide +kernel
theorem dX11_closeWays_26 : decode cX11_closeWays 26 = .ok (.iload_n 3, 1) := by decide +kernel
theorem dX11_closeWays_27 : decode cX11_closeWays 27 = .ok (.aload_n 0, 1) := by decide +kernel
theorem dX11_closeWays_28 : decode cX11_closeWays 28 = .ok (.getfield 31, 3) := by decide +kernel
theorem dX11_closeWays_31 : decode cX11_closeWays 31 = .ok (.bipush 6, 2) := by decide +kernel
theorem dX11_closeWays_33 : decode cX11_closeWays 33 = .ok (.iload_n 2, 1) := by decide +kernel
theorem dX11_closeWays_34 : decode cX11_closeWays 34 = .ok (.imul, 1) := by decide +kernel
theorem dX11_closeWays_35 : decode cX11_closeWays 35 = .ok (.iload_n 1, 1) := by decide +kernel
theorem dX11_closeWays_36 : decode cX11_closeWays 36 = .ok (.iadd, 1) := by decide +kernel
theorem dX11_closeWays_37 : decode cX11_closeWays 37 = .ok (.iaload, 1) := by decide +kernel
theorem dX11_closeWays_38 : decode cX11_closeWays 38 = .ok (.aload_n 0, 1) := by decide +kernel
theorem dX11_closeWays_39 : decode cX11_closeWays 39 = .ok (.getfield 31, 3) := by decide +kernel
theorem dX11_closeWays_42 : decode cX11_closeWays 42 = .ok (.bipush 6, 2) := by decide +kernel
theorem dX11_closeWays_44 : decode cX11_closeWays 44 = .ok (.iload_n 1, 1) := by decide +kernel
theorem dX11_closeWays_45 : decode cX11_closeWays 45 = .ok (.imul, 1) := by decide +kernel
theorem dX11_closeWays_46 : decode cX11_closeWays 46 = .ok (.iload_n 3, 1) := by decide +kernel
theorem dX11_closeWays_47 : decode cX11_closeWays 47 = .ok (.iadd, 1) := by decide +kernel
theorem dX11_closeWays_48 : decode cX11_closeWays 48 = .ok (.iaload, 1) := by decide +kernel

theorem dX0_init_0 : decode cX0_init 0 = .ok (.aload_n 0, 1) := by decide +kernel
theorem dX0_init_1 : decode cX0_init 1 = .ok (.invokespecial 3, 3) := by decide +kernel
theorem dX0_init_4 : decode cX0_init 4 = .ok (.aload_n 0, 1) := by decide +kernel
theorem dX0_init_5 : decode cX0_init 5 = .ok (.iconst 3, 1) := by decide +kernel
theorem dX0_init_6 : decode cX0_init 6 = .ok (.putfield 9, 3) := by decide +kernel
theorem dX0_init_9 : decode cX0_init 9 = .ok (.aload_n 0, 1) := by decide +kernel
theorem dX0_init_10 : decode cX0_init 10 = .ok (.iconst 1, 1) := by decide +kernel
theorem dX0_init_11 : decode cX0_init 11 = .ok (.putfield 15, 3) := by decide +kernel
theorem dX0_init_14 : decode cX0_init 14 = .ok (.aload_n 0, 1) := by decide +kernel
theorem dX0_init_15 : decode cX0_init 15 = .ok (.bipush 8, 2) := by decide +kernel
theorem dX0_init_17 : decode cX0_init 17 = .ok (.newarray .int, 2) := by decide +kernel
theorem dX0_init_19 : decode cX0_init 19 = .ok (.dup, 1) := by decide +kernel
theorem dX0_init_20 : decode cX0_init 20 = .ok (.iconst 0, 1) := by decide +kernel
theorem dX0_init_21 : decode cX0_init 21 = .ok (.iconst 2, 1) := by decide +kernel
theorem dX0_init_22 : decode cX0_init 22 = .ok (.iastore, 1) := by decide +kernel
theorem dX0_init_23 : decode cX0_init 23 = .ok (.dup, 1) := by decide +kernel
theorem dX0_init_24 : decode cX0_init 24 = .ok (.iconst 1, 1) := by decide +kernel
theorem dX0_init_25 : decode cX0_init 25 = .ok (.iconst 2, 1) := by decide +kernel
theorem dX0_init_26 : decode cX0_init 26 = .ok (.iastore, 1) := by decide +kernel
theorem dX0_init_27 : decode cX0_init 27 = .ok (.dup, 1) := by decide +kernel
theorem dX0_init_28 : decode cX0_init 28 = .ok (.iconst 2, 1) := by decide +kernel
theorem dX0_init_29 : decode cX0_init 29 = .ok (.iconst 2, 1) := by decide +kernel
theorem dX0_init_30 : decode cX0_init 30 = .ok (.iastore, 1) := by decide +kernel
theorem dX0_init_31 : decode cX0_init 31 = .ok (.dup, 1) := by decide +kernel
theorem dX0_init_32 : decode cX0_init 32 = .ok (.iconst 3, 1) := by decide +kernel
theorem dX0_init_33 : decode cX0_init 33 = .ok (.iconst 2, 1) := by decide +kernel
theorem dX0_init_34 : decode cX0_init 34 = .ok (.iastore, 1) := by decide +kernel
theorem dX0_init_35 : decode cX0_init 35 = .ok (.dup, 1) := by decide +kernel
theorem dX0_init_36 : decode cX0_init 36 = .ok (.iconst 4, 1) := by decide +kernel
theorem dX0_init_37 : decode cX0_init 37 = .ok (.iconst 2, 1) := by decide +kernel
theorem dX0_init_38 : decode cX0_init 38 = .ok (.iastore, 1) := by decide +kernel
theorem dX0_init_39 : decode cX0_init 39 = .ok (.dup, 1) := by decide +kernel
theorem dX0_init_40 : decode cX0_init 40 = .ok (.iconst 5, 1) := by decide +kernel
theorem dX0_init_41 : decode cX0_init 41 = .ok (.iconst 2, 1) := by decide +kernel
theorem dX0_init_42 : decode cX0_init 42 = .ok (.iastore, 1) := by decide +kernel
theorem dX0_init_43 : decode cX0_init 43 = .ok (.dup, 1) := by decide +kernel
theorem dX0_init_44 : decode cX0_init 44 = .ok (.bipush 6, 2) := by decide +kernel
theorem dX0_init_46 : decode cX0_init 46 = .ok (.iconst 2, 1) := by decide +kernel
theorem dX0_init_47 : decode cX0_init 47 = .ok (.iastore, 1) := by decide +kernel
theorem dX0_init_48 : decode cX0_init 48 = .ok (.dup, 1) := by decide +kernel
theorem dX0_init_49 : decode cX0_init 49 = .ok (.bipush 7, 2) := by decide +kernel
theorem dX0_init_51 : decode cX0_init 51 = .ok (.bipush 10, 2) := by decide +kernel
theorem dX0_init_53 : decode cX0_init 53 = .ok (.iastore, 1) := by decide +kernel
theorem dX0_init_54 : decode cX0_init 54 = .ok (.putfield 18, 3) := by decide +kernel
theorem dX0_init_57 : decode cX0_init 57 = .ok (.return_, 1) := by decide +kernel
theorem dX0_change_0 : decode cX0_change 0 = .ok (.iload_n 1, 1) := by decide +kernel
theorem dX0_change_1 : decode cX0_change 1 = .ok (.bipush 10, 2) := by decide +kernel
theorem dX0_change_3 : decode cX0_change 3 = .ok (.isub, 1) := by decide +kernel
theorem dX0_change_4 : decode cX0_change 4 = .ok (.istore_n 3, 1) := by decide +kernel
theorem dX0_change_5 : decode cX0_change 5 = .ok (.iconst (-1), 1) := by decide +kernel
theorem dX0_change_6 : decode cX0_change 6 = .ok (.istore 4, 2) := by decide +kernel
theorem dX0_change_8 : decode cX0_change 8 = .ok (.iload_n 1, 1) := by decide +kernel
theorem dX0_change_9 : decode cX0_change 9 = .ok (.ifCond .ne 26, 3) := by decide +kernel
theorem dX0_change_12 : decode cX0_change 12 = .ok (.iload_n 2, 1) := by decide +kernel
theorem dX0_change_13 : decode cX0_change 13 = .ok (.bipush 101, 2) := by decide +kernel
theorem dX0_change_15 : decode cX0_change 15 = .ok (.invokestatic 22, 3) := by decide +kernel
theorem dX0_change_18 : decode cX0_change 18 = .ok (.ifCond .eq 17, 3) := by decide +kernel
theorem dX0_change_21 : decode cX0_change 21 = .ok (.aload_n 0, 1) := by decide +kernel
theorem dX0_change_22 : decode cX0_change 22 = .ok (.getfield 9, 3) := by decide +kernel
theorem dX0_change_25 : decode cX0_change 25 = .ok (.istore 4, 2) := by decide +kernel
theorem dX0_change_27 : decode cX0_change 27 = .ok (.aload_n 0, 1) := by decide +kernel
theorem dX0_change_28 : decode cX0_change 28 = .ok (.iload_n 2, 1) := by decide +kernel
theorem dX0_change_29 : decode cX0_change 29 = .ok (.putfield 9, 3) := by decide +kernel
theorem dX0_change_32 : decode cX0_change 32 = .ok (.goto 65, 3) := by decide +kernel
theorem dX0_change_35 : decode cX0_change 35 = .ok (.iload_n 1, 1) := by decide +kernel
theorem dX0_change_36 : decode cX0_change 36 = .ok (.iconst 1, 1) := by decide +kernel
theorem dX0_change_37 : decode cX0_change 37 = .ok (.if_icmp .ne 26, 3) := by decide +kernel
theorem dX0_change_40 : decode cX0_change 40 = .ok (.iload_n 2, 1) := by decide +kernel
theorem dX0_change_41 : decode cX0_change 41 = .ok (.bipush 101, 2) := by decide +kernel
theorem dX0_change_43 : decode cX0_change 43 = .ok (.invokestatic 22, 3) := by decide +kernel
theorem dX0_change_46 : decode cX0_change 46 = .ok (.ifCond .eq 17, 3) := by decide +kernel
theorem dX0_change_49 : decode cX0_change 49 = .ok (.aload_n 0, 1) := by decide +kernel
theorem dX0_change_50 : decode cX0_change 50 = .ok (.getfield 15, 3) := by decide +kernel
theorem dX0_change_53 : decode cX0_change 53 = .ok (.istore 4, 2) := by decide +kernel
theorem dX0_change_55 : decode cX0_change 55 = .ok (.aload_n 0, 1) := by decide +kernel
theorem dX0_change_56 : decode cX0_change 56 = .ok (.iload_n 2, 1) := by decide +kernel
theorem dX0_change_57 : decode cX0_change 57 = .ok (.putfield 15, 3) := by decide +kernel
theorem dX0_change_60 : decode cX0_change 60 = .ok (.goto 37, 3) := by decide +kernel
theorem dX0_change_63 : decode cX0_change 63 = .ok (.iload_n 3, 1) := by decide +kernel
theorem dX0_change_64 : decode cX0_change 64 = .ok (.bipush 8, 2) := by decide +kernel
theorem dX0_change_66 : decode cX0_change 66 = .ok (.invokestatic 22, 3) := by decide +kernel
theorem dX0_change_69 : decode cX0_change 69 = .ok (.ifCond .eq 28, 3) := by decide +kernel
theorem dX0_change_72 : decode cX0_change 72 = .ok (.iload_n 2, 1) := by decide +kernel
theorem dX0_change_73 : decode cX0_change 73 = .ok (.sipush 1001, 3) := by decide +kernel
theorem dX0_change_76 : decode cX0_change 76 = .ok (.invokestatic 22, 3) := by decide +kernel
theorem dX0_change_79 : decode cX0_change 79 = .ok (.ifCond .eq 18, 3) := by decide +kernel
theorem dX0_change_82 : decode cX0_change 82 = .ok (.aload_n 0, 1) := by decide +kernel
theorem dX0_change_83 : decode cX0_change 83 = .ok (.getfield 18, 3) := by decide +kernel
theorem dX0_change_86 : decode cX0_change 86 = .ok (.iload_n 3, 1) := by decide +kernel
theorem dX0_change_87 : decode cX0_change 87 = .ok (.iaload, 1) := by decide +kernel
theorem dX0_change_88 : decode cX0_change 88 = .ok (.istore 4, 2) := by decide +kernel
theorem dX0_change_90 : decode cX0_change 90 = .ok (.aload_n 0, 1) := by decide +kernel
theorem dX0_change_91 : decode cX0_change 91 = .ok (.getfield 18, 3) := by decide +kernel
theorem dX0_change_94 : decode cX0_change 94 = .ok (.iload_n 3, 1) := by decide +kernel
theorem dX0_change_95 : decode cX0_change 95 = .ok (.iload_n 2, 1) := by decide +kernel
theorem dX0_change_96 : decode cX0_change 96 = .ok (.iastore, 1) := by decide +kernel
theorem dX0_change_97 : decode cX0_change 97 = .ok (.iload 4, 2) := by decide +kernel
theorem dX0_change_99 : decode cX0_change 99 = .ok (.ireturn, 1) := by decide +kernel
theorem dX1_init_0 : decode cX1_init 0 = .ok (.aload_n 0, 1) := by decide +kernel
theorem dX1_init_1 : decode cX1_init 1 = .ok (.invokespecial 3, 3) := by decide +kernel
theorem dX1_init_4 : decode cX1_init 4 = .ok (.aload_n 0, 1) := by decide +kernel
theorem dX1_init_5 : decode cX1_init 5 = .ok (.new 9, 3) := by decide +kernel
theorem dX1_init_8 : decode cX1_init 8 = .ok (.dup, 1) := by decide +kernel
theorem dX1_init_9 : decode cX1_init 9 = .ok (.invokespecial 11, 3) := by decide +kernel
theorem dX1_init_12 : decode cX1_init 12 = .ok (.putfield 12, 3) := by decide +kernel
theorem dX1_init_15 : decode cX1_init 15 = .ok (.aload_n 0, 1) := by decide +kernel
theorem dX1_init_16 : decode cX1_init 16 = .ok (.bipush 6, 2) := by decide +kernel
theorem dX1_init_18 : decode cX1_init 18 = .ok (.anewarray 18, 3) := by decide +kernel
theorem dX1_init_21 : decode cX1_init 21 = .ok (.putfield 20, 3) := by decide +kernel
theorem dX1_init_24 : decode cX1_init 24 = .ok (.aload_n 0, 1) := by decide +kernel
theorem dX1_init_25 : decode cX1_init 25 = .ok (.bipush 100, 2) := by decide +kernel
theorem dX1_init_27 : decode cX1_init 27 = .ok (.anewarray 24, 3) := by decide +kernel
theorem dX1_init_30 : decode cX1_init 30 = .ok (.putfield 26, 3) := by decide +kernel
theorem dX1_init_33 : decode cX1_init 33 = .ok (.aload_n 0, 1) := by decide +kernel
theorem dX1_init_34 : decode cX1_init 34 = .ok (.bipush 8, 2) := by decide +kernel
theorem dX1_init_36 : decode cX1_init 36 = .ok (.newarray .int, 2) := by decide +kernel
theorem dX1_init_38 : decode cX1_init 38 = .ok (.putfield 30, 3) := by decide +kernel
theorem dX1_init_41 : decode cX1_init 41 = .ok (.aload_n 0, 1) := by decide +kernel
theorem dX1_init_42 : decode cX1_init 42 = .ok (.bipush 40, 2) := by decide +kernel
theorem dX1_init_44 : decode cX1_init 44 = .ok (.newarray .int, 2) := by decide +kernel
theorem dX1_init_46 : decode cX1_init 46 = .ok (.putfield 34, 3) := by decide +kernel
theorem dX1_init_49 : decode cX1_init 49 = .ok (.aload_n 0, 1) := by decide +kernel
theorem dX1_init_50 : decode cX1_init 50 = .ok (.aload_n 1, 1) := by decide +kernel
theorem dX1_init_51 : decode cX1_init 51 = .ok (.putfield 37, 3) := by decide +kernel
theorem dX1_init_54 : decode cX1_init 54 = .ok (.return_, 1) := by decide +kernel
theorem dX1_learnAnew_0 : decode cX1_learnAnew 0 = .ok (.aload_n 0, 1) := by decide +kernel
theorem dX1_learnAnew_1 : decode cX1_learnAnew 1 = .ok (.aload_n 2, 1) := by decide +kernel
theorem dX1_learnAnew_2 : decode cX1_learnAnew 2 = .ok (.invokevirtual 41, 3) := by decide +kernel
theorem dX1_learnAnew_5 : decode cX1_learnAnew 5 = .ok (.aload_n 0, 1) := by decide +kernel
theorem dX1_learnAnew_6 : decode cX1_learnAnew 6 = .ok (.aload_n 1, 1) := by decide +kernel
theorem dX1_learnAnew_7 : decode cX1_learnAnew 7 = .ok (.aload_n 2, 1) := by decide +kernel
theorem dX1_learnAnew_8 : decode cX1_learnAnew 8 = .ok (.invokevirtual 45, 3) := by decide +kernel
theorem dX1_learnAnew_11 : decode cX1_learnAnew 11 = .ok (.aload_n 0, 1) := by decide +kernel
theorem dX1_learnAnew_12 : decode cX1_learnAnew 12 = .ok (.lconst 0, 1) := by decide +kernel
theorem dX1_learnAnew_13 : decode cX1_learnAnew 13 = .ok (.invokevirtual 48, 3) := by decide +kernel
theorem dX1_learnAnew_16 : decode cX1_learnAnew 16 = .ok (.aload_n 0, 1) := by decide +kernel
theorem dX1_learnAnew_17 : decode cX1_learnAnew 17 = .ok (.aload_n 0, 1) := by decide +kernel
theorem dX1_learnAnew_18 : decode cX1_learnAnew 18 = .ok (.getfield 52, 3) := by decide +kernel
theorem dX1_learnAnew_21 : decode cX1_learnAnew 21 = .ok (.putfield 56, 3) := by decide +kernel
theorem dX1_learnAnew_24 : decode cX1_learnAnew 24 = .ok (.aload_n 0, 1) := by decide +kernel
theorem dX1_learnAnew_25 : decode cX1_learnAnew 25 = .ok (.aload_n 0, 1) := by decide +kernel
theorem dX1_learnAnew_26 : decode cX1_learnAnew 26 = .ok (.iconst 0, 1) := by decide +kernel
theorem dX1_learnAnew_27 : decode cX1_learnAnew 27 = .ok (.invokevirtual 59, 3) := by decide +kernel
theorem dX1_learnAnew_30 : decode cX1_learnAnew 30 = .ok (.putfield 63, 3) := by decide +kernel
theorem dX1_learnAnew_33 : decode cX1_learnAnew 33 = .ok (.aload_n 0, 1) := by decide +kernel
theorem dX1_learnAnew_34 : decode cX1_learnAnew 34 = .ok (.aload_n 0, 1) := by decide +kernel
theorem dX1_learnAnew_35 : decode cX1_learnAnew 35 = .ok (.getfield 63, 3) := by decide +kernel
theorem dX1_learnAnew_38 : decode cX1_learnAnew 38 = .ok (.putfield 66, 3) := by decide +kernel
theorem dX1_learnAnew_41 : decode cX1_learnAnew 41 = .ok (.iconst 0, 1) := by decide +kernel
theorem dX1_learnAnew_42 : decode cX1_learnAnew 42 = .ok (.istore_n 3, 1) := by decide +kernel
theorem dX1_learnAnew_43 : decode cX1_learnAnew 43 = .ok (.iload_n 3, 1) := by decide +kernel
theorem dX1_learnAnew_44 : decode cX1_learnAnew 44 = .ok (.bipush 6, 2) := by decide +kernel
theorem dX1_learnAnew_46 : decode cX1_learnAnew 46 = .ok (.if_icmp .ge 59, 3) := by decide +kernel
theorem dX1_learnAnew_49 : decode cX1_learnAnew 49 = .ok (.aload_n 0, 1) := by decide +kernel
theorem dX1_learnAnew_50 : decode cX1_learnAnew 50 = .ok (.invokevirtual 69, 3) := by decide +kernel
theorem dX1_learnAnew_53 : decode cX1_learnAnew 53 = .ok (.ifCond .eq 52, 3) := by decide +kernel
theorem dX1_learnAnew_56 : decode cX1_learnAnew 56 = .ok (.aload_n 0, 1) := by decide +kernel
theorem dX1_learnAnew_57 : decode cX1_learnAnew 57 = .ok (.aload_n 0, 1) := by decide +kernel
theorem dX1_learnAnew_58 : decode cX1_learnAnew 58 = .ok (.getfield 73, 3) := by decide +kernel
theorem dX1_learnAnew_61 : decode cX1_learnAnew 61 = .ok (.aload_n 0, 1) := by decide +kernel
theorem dX1_learnAnew_62 : decode cX1_learnAnew 62 = .ok (.getfield 76, 3) := by decide +kernel
theorem dX1_learnAnew_65 : decode cX1_learnAnew 65 = .ok (.aload_n 0, 1) := by decide +kernel
theorem dX1_learnAnew_66 : decode cX1_learnAnew 66 = .ok (.getfield 79, 3) := by decide +kernel
theorem dX1_learnAnew_69 : decode cX1_learnAnew 69 = .ok (.invokevirtual 82, 3) := by decide +kernel
theorem dX1_learnAnew_72 : decode cX1_learnAnew 72 = .ok (.astore 4, 2) := by decide +kernel
theorem dX1_learnAnew_74 : decode cX1_learnAnew 74 = .ok (.aload_n 2, 1) := by decide +kernel
theorem dX1_learnAnew_75 : decode cX1_learnAnew 75 = .ok (.aload 4, 2) := by decide +kernel
theorem dX1_learnAnew_77 : decode cX1_learnAnew 77 = .ok (.invokevirtual 86, 3) := by decide +kernel
theorem dX1_learnAnew_80 : decode cX1_learnAnew 80 = .ok (.aload_n 0, 1) := by decide +kernel
theorem dX1_learnAnew_81 : decode cX1_learnAnew 81 = .ok (.aload 4, 2) := by decide +kernel
theorem dX1_learnAnew_83 : decode cX1_learnAnew 83 = .ok (.invokevirtual 92, 3) := by decide +kernel
theorem dX1_learnAnew_86 : decode cX1_learnAnew 86 = .ok (.aload_n 0, 1) := by decide +kernel
theorem dX1_learnAnew_87 : decode cX1_learnAnew 87 = .ok (.dup, 1) := by decide +kernel
theorem dX1_learnAnew_88 : decode cX1_learnAnew 88 = .ok (.getfield 66, 3) := by decide +kernel
theorem dX1_learnAnew_91 : decode cX1_learnAnew 91 = .ok (.aload_n 0, 1) := by decide +kernel
theorem dX1_learnAnew_92 : decode cX1_learnAnew 92 = .ok (.getfield 95, 3) := by decide +kernel
theorem dX1_learnAnew_95 : decode cX1_learnAnew 95 = .ok (.isub, 1) := by decide +kernel
theorem dX1_learnAnew_96 : decode cX1_learnAnew 96 = .ok (.putfield 66, 3) := by decide +kernel
theorem dX1_learnAnew_99 : decode cX1_learnAnew 99 = .ok (.iinc 3 1, 3) := by decide +kernel
theorem dX1_learnAnew_102 : decode cX1_learnAnew 102 = .ok (.goto (-59), 3) := by decide +kernel
theorem dX1_learnAnew_105 : decode cX1_learnAnew 105 = .ok (.aload_n 0, 1) := by decide +kernel
theorem dX1_learnAnew_106 : decode cX1_learnAnew 106 = .ok (.aload_n 2, 1) := by decide +kernel
theorem dX1_learnAnew_107 : decode cX1_learnAnew 107 = .ok (.getfield 98, 3) := by decide +kernel
theorem dX1_learnAnew_110 : decode cX1_learnAnew 110 = .ok (.aload_n 2, 1) := by decide +kernel
theorem dX1_learnAnew_111 : decode cX1_learnAnew 111 = .ok (.getfield 101, 3) := by decide +kernel
theorem dX1_learnAnew_114 : decode cX1_learnAnew 114 = .ok (.aload_n 0, 1) := by decide +kernel
theorem dX1_learnAnew_115 : decode cX1_learnAnew 115 = .ok (.getfield 20, 3) := by decide +kernel
theorem dX1_learnAnew_118 : decode cX1_learnAnew 118 = .ok (.aload_n 0, 1) := by decide +kernel
theorem dX1_learnAnew_119 : decode cX1_learnAnew 119 = .ok (.getfield 104, 3) := by decide +kernel
theorem dX1_learnAnew_122 : decode cX1_learnAnew 122 = .ok (.invokestatic 107, 3) := by decide +kernel
theorem dX1_learnAnew_125 : decode cX1_learnAnew 125 = .ok (.putfield 111, 3) := by decide +kernel
theorem dX1_learnAnew_128 : decode cX1_learnAnew 128 = .ok (.aload_n 0, 1) := by decide +kernel
theorem dX1_learnAnew_129 : decode cX1_learnAnew 129 = .ok (.aload_n 0, 1) := by decide +kernel
theorem dX1_learnAnew_130 : decode cX1_learnAnew 130 = .ok (.getfield 20, 3) := by decide +kernel
theorem dX1_learnAnew_133 : decode cX1_learnAnew 133 = .ok (.aload_n 0, 1) := by decide +kernel
theorem dX1_learnAnew_134 : decode cX1_learnAnew 134 = .ok (.getfield 104, 3) := by decide +kernel
theorem dX1_learnAnew_137 : decode cX1_learnAnew 137 = .ok (.aload_n 2, 1) := by decide +kernel
theorem dX1_learnAnew_138 : decode cX1_learnAnew 138 = .ok (.getfield 98, 3) := by decide +kernel
theorem dX1_learnAnew_141 : decode cX1_learnAnew 141 = .ok (.aload_n 2, 1) := by decide +kernel
theorem dX1_learnAnew_142 : decode cX1_learnAnew 142 = .ok (.getfield 101, 3) := by decide +kernel
theorem dX1_learnAnew_145 : decode cX1_learnAnew 145 = .ok (.invokestatic 107, 3) := by decide +kernel
theorem dX1_learnAnew_148 : decode cX1_learnAnew 148 = .ok (.putfield 114, 3) := by decide +kernel
theorem dX1_learnAnew_151 : decode cX1_learnAnew 151 = .ok (.aload_n 0, 1) := by decide +kernel
theorem dX1_learnAnew_152 : decode cX1_learnAnew 152 = .ok (.iconst 1, 1) := by decide +kernel
theorem dX1_learnAnew_153 : decode cX1_learnAnew 153 = .ok (.putfield 117, 3) := by decide +kernel
theorem dX1_learnAnew_156 : decode cX1_learnAnew 156 = .ok (.return_, 1) := by decide +kernel
theorem dX1_putAside_0 : decode cX1_putAside 0 = .ok (.aload_n 0, 1) := by decide +kernel
theorem dX1_putAside_1 : decode cX1_putAside 1 = .ok (.aload_n 1, 1) := by decide +kernel
theorem dX1_putAside_2 : decode cX1_putAside 2 = .ok (.getfield 101, 3) := by decide +kernel
theorem dX1_putAside_5 : decode cX1_putAside 5 = .ok (.putfield 104, 3) := by decide +kernel
theorem dX1_putAside_8 : decode cX1_putAside 8 = .ok (.iconst 0, 1) := by decide +kernel
theorem dX1_putAside_9 : decode cX1_putAside 9 = .ok (.istore_n 2, 1) := by decide +kernel
theorem dX1_putAside_10 : decode cX1_putAside 10 = .ok (.iload_n 2, 1) := by decide +kernel
theorem dX1_putAside_11 : decode cX1_putAside 11 = .ok (.aload_n 0, 1) := by decide +kernel
theorem dX1_putAside_12 : decode cX1_putAside 12 = .ok (.getfield 104, 3) := by decide +kernel
theorem dX1_putAside_15 : decode cX1_putAside 15 = .ok (.if_icmp .ge 21, 3) := by decide +kernel
theorem dX1_putAside_18 : decode cX1_putAside 18 = .ok (.aload_n 0, 1) := by decide +kernel
theorem dX1_putAside_19 : decode cX1_putAside 19 = .ok (.getfield 20, 3) := by decide +kernel
theorem dX1_putAside_22 : decode cX1_putAside 22 = .ok (.iload_n 2, 1) := by decide +kernel
theorem dX1_putAside_23 : decode cX1_putAside 23 = .ok (.aload_n 1, 1) := by decide +kernel
theorem dX1_putAside_24 : decode cX1_putAside 24 = .ok (.getfield 98, 3) := by decide +kernel
theorem dX1_putAside_27 : decode cX1_putAside 27 = .ok (.iload_n 2, 1) := by decide +kernel
theorem dX1_putAside_28 : decode cX1_putAside 28 = .ok (.aaload, 1) := by decide +kernel
theorem dX1_putAside_29 : decode cX1_putAside 29 = .ok (.aastore, 1) := by decide +kernel
theorem dX1_putAside_30 : decode cX1_putAside 30 = .ok (.iinc 2 1, 3) := by decide +kernel
theorem dX1_putAside_33 : decode cX1_putAside 33 = .ok (.goto (-23), 3) := by decide +kernel
theorem dX1_putAside_36 : decode cX1_putAside 36 = .ok (.aload_n 1, 1) := by decide +kernel
theorem dX1_putAside_37 : decode cX1_putAside 37 = .ok (.iconst 0, 1) := by decide +kernel
theorem dX1_putAside_38 : decode cX1_putAside 38 = .ok (.putfield 101, 3) := by decide +kernel
theorem dX1_putAside_41 : decode cX1_putAside 41 = .ok (.return_, 1) := by decide +kernel
theorem dX1_open_0 : decode cX1_open 0 = .ok (.aload_n 0, 1) := by decide +kernel
theorem dX1_open_1 : decode cX1_open 1 = .ok (.iconst 0, 1) := by decide +kernel
theorem dX1_open_2 : decode cX1_open 2 = .ok (.putfield 52, 3) := by decide +kernel
theorem dX1_open_5 : decode cX1_open 5 = .ok (.iconst 0, 1) := by decide +kernel
theorem dX1_open_6 : decode cX1_open 6 = .ok (.istore_n 3, 1) := by decide +kernel
theorem dX1_open_7 : decode cX1_open 7 = .ok (.iload_n 3, 1) := by decide +kernel
theorem dX1_open_8 : decode cX1_open 8 = .ok (.aload_n 1, 1) := by decide +kernel
theorem dX1_open_9 : decode cX1_open 9 = .ok (.getfield 121, 3) := by decide +kernel
theorem dX1_open_12 : decode cX1_open 12 = .ok (.if_icmp .ge 56, 3) := by decide +kernel
theorem dX1_open_15 : decode cX1_open 15 = .ok (.aload_n 1, 1) := by decide +kernel
theorem dX1_open_16 : decode cX1_open 16 = .ok (.getfield 126, 3) := by decide +kernel
theorem dX1_open_19 : decode cX1_open 19 = .ok (.iload_n 3, 1) := by decide +kernel
theorem dX1_open_20 : decode cX1_open 20 = .ok (.aaload, 1) := by decide +kernel
theorem dX1_open_21 : decode cX1_open 21 = .ok (.astore 4, 2) := by decide +kernel
theorem dX1_open_23 : decode cX1_open 23 = .ok (.aload 4, 2) := by decide +kernel
theorem dX1_open_25 : decode cX1_open 25 = .ok (.getfield 129, 3) := by decide +kernel
theorem dX1_open_28 : decode cX1_open 28 = .ok (.iconst (-1), 1) := by decide +kernel
theorem dX1_open_29 : decode cX1_open 29 = .ok (.if_icmp .eq 33, 3) := by decide +kernel
theorem dX1_open_32 : decode cX1_open 32 = .ok (.aload_n 2, 1) := by decide +kernel
theorem dX1_open_33 : decode cX1_open 33 = .ok (.aload 4, 2) := by decide +kernel
theorem dX1_open_35 : decode cX1_open 35 = .ok (.invokevirtual 132, 3) := by decide +kernel
theorem dX1_open_38 : decode cX1_open 38 = .ok (.ifCond .ne 24, 3) := by decide +kernel
theorem dX1_open_41 : decode cX1_open 41 = .ok (.aload_n 0, 1) := by decide +kernel
theorem dX1_open_42 : decode cX1_open 42 = .ok (.getfield 26, 3) := by decide +kernel
theorem dX1_open_45 : decode cX1_open 45 = .ok (.aload_n 0, 1) := by decide +kernel
theorem dX1_open_46 : decode cX1_open 46 = .ok (.getfield 52, 3) := by decide +kernel
theorem dX1_open_49 : decode cX1_open 49 = .ok (.aload 4, 2) := by decide +kernel
theorem dX1_open_51 : decode cX1_open 51 = .ok (.aastore, 1) := by decide +kernel
theorem dX1_open_52 : decode cX1_open 52 = .ok (.aload_n 0, 1) := by decide +kernel
theorem dX1_open_53 : decode cX1_open 53 = .ok (.dup, 1) := by decide +kernel
theorem dX1_open_54 : decode cX1_open 54 = .ok (.getfield 52, 3) := by decide +kernel
theorem dX1_open_57 : decode cX1_open 57 = .ok (.iconst 1, 1) := by decide +kernel
theorem dX1_open_58 : decode cX1_open 58 = .ok (.iadd, 1) := by decide +kernel
theorem dX1_open_59 : decode cX1_open 59 = .ok (.putfield 52, 3) := by decide +kernel
theorem dX1_open_62 : decode cX1_open 62 = .ok (.iinc 3 1, 3) := by decide +kernel
theorem dX1_open_65 : decode cX1_open 65 = .ok (.goto (-58), 3) := by decide +kernel
theorem dX1_open_68 : decode cX1_open 68 = .ok (.return_, 1) := by decide +kernel
theorem dX1_closeFitted_0 : decode cX1_closeFitted 0 = .ok (.iconst 0, 1) := by decide +kernel
theorem dX1_closeFitted_1 : decode cX1_closeFitted 1 = .ok (.istore_n 2, 1) := by decide +kernel
theorem dX1_closeFitted_2 : decode cX1_closeFitted 2 = .ok (.iconst 0, 1) := by decide +kernel
theorem dX1_closeFitted_3 : decode cX1_closeFitted 3 = .ok (.istore_n 3, 1) := by decide +kernel
theorem dX1_closeFitted_4 : decode cX1_closeFitted 4 = .ok (.iload_n 3, 1) := by decide +kernel
theorem dX1_closeFitted_5 : decode cX1_closeFitted 5 = .ok (.aload_n 0, 1) := by decide +kernel
theorem dX1_closeFitted_6 : decode cX1_closeFitted 6 = .ok (.getfield 52, 3) := by decide +kernel
theorem dX1_closeFitted_9 : decode cX1_closeFitted 9 = .ok (.if_icmp .ge 37, 3) := by decide +kernel
theorem dX1_closeFitted_12 : decode cX1_closeFitted 12 = .ok (.aload_n 0, 1) := by decide +kernel
theorem dX1_closeFitted_13 : decode cX1_closeFitted 13 = .ok (.getfield 26, 3) := by decide +kernel
theorem dX1_closeFitted_16 : decode cX1_closeFitted 16 = .ok (.iload_n 3, 1) := by decide +kernel
theorem dX1_closeFitted_17 : decode cX1_closeFitted 17 = .ok (.aaload, 1) := by decide +kernel
theorem dX1_closeFitted_18 : decode cX1_closeFitted 18 = .ok (.astore 4, 2) := by decide +kernel
theorem dX1_closeFitted_20 : decode cX1_closeFitted 20 = .ok (.aload_n 1, 1) := by decide +kernel
theorem dX1_closeFitted_21 : decode cX1_closeFitted 21 = .ok (.aload 4, 2) := by decide +kernel
theorem dX1_closeFitted_23 : decode cX1_closeFitted 23 = .ok (.invokevirtual 136, 3) := by decide +kernel
theorem dX1_closeFitted_26 : decode cX1_closeFitted 26 = .ok (.ifCond .ne 14, 3) := by decide +kernel
theorem dX1_closeFitted_29 : decode cX1_closeFitted 29 = .ok (.aload_n 0, 1) := by decide +kernel
theorem dX1_closeFitted_30 : decode cX1_closeFitted 30 = .ok (.getfield 26, 3) := by decide +kernel
theorem dX1_closeFitted_33 : decode cX1_closeFitted 33 = .ok (.iload_n 2, 1) := by decide +kernel
theorem dX1_closeFitted_34 : decode cX1_closeFitted 34 = .ok (.aload 4, 2) := by decide +kernel
theorem dX1_closeFitted_36 : decode cX1_closeFitted 36 = .ok (.aastore, 1) := by decide +kernel
theorem dX1_closeFitted_37 : decode cX1_closeFitted 37 = .ok (.iinc 2 1, 3) := by decide +kernel
theorem dX1_closeFitted_40 : decode cX1_closeFitted 40 = .ok (.iinc 3 1, 3) := by decide +kernel
theorem dX1_closeFitted_43 : decode cX1_closeFitted 43 = .ok (.goto (-39), 3) := by decide +kernel
theorem dX1_closeFitted_46 : decode cX1_closeFitted 46 = .ok (.aload_n 0, 1) := by decide +kernel
theorem dX1_closeFitted_47 : decode cX1_closeFitted 47 = .ok (.iload_n 2, 1) := by decide +kernel
theorem dX1_closeFitted_48 : decode cX1_closeFitted 48 = .ok (.putfield 52, 3) := by decide +kernel
theorem dX1_closeFitted_51 : decode cX1_closeFitted 51 = .ok (.return_, 1) := by decide +kernel
theorem dX1_findBest_0 : decode cX1_findBest 0 = .ok (.aload_n 0, 1) := by decide +kernel
theorem dX1_findBest_1 : decode cX1_findBest 1 = .ok (.iconst 0, 1) := by decide +kernel
theorem dX1_findBest_2 : decode cX1_findBest 2 = .ok (.putfield 95, 3) := by decide +kernel
theorem dX1_findBest_5 : decode cX1_findBest 5 = .ok (.iconst 0, 1) := by decide +kernel
theorem dX1_findBest_6 : decode cX1_findBest 6 = .ok (.istore_n 1, 1) := by decide +kernel
theorem dX1_findBest_7 : decode cX1_findBest 7 = .ok (.iload_n 1, 1) := by decide +kernel
theorem dX1_findBest_8 : decode cX1_findBest 8 = .ok (.bipush 40, 2) := by decide +kernel
theorem dX1_findBest_10 : decode cX1_findBest 10 = .ok (.if_icmp .ge 48, 3) := by decide +kernel
theorem dX1_findBest_13 : decode cX1_findBest 13 = .ok (.aload_n 0, 1) := by decide +kernel
theorem dX1_findBest_14 : decode cX1_findBest 14 = .ok (.lconst 1, 1) := by decide +kernel
theorem dX1_findBest_15 : decode cX1_findBest 15 = .ok (.iload_n 1, 1) := by decide +kernel
theorem dX1_findBest_16 : decode cX1_findBest 16 = .ok (.lshl, 1) := by decide +kernel
theorem dX1_findBest_17 : decode cX1_findBest 17 = .ok (.invokevirtual 48, 3) := by decide +kernel
theorem dX1_findBest_20 : decode cX1_findBest 20 = .ok (.aload_n 0, 1) := by decide +kernel
theorem dX1_findBest_21 : decode cX1_findBest 21 = .ok (.getfield 34, 3) := by decide +kernel
theorem dX1_findBest_24 : decode cX1_findBest 24 = .ok (.iload_n 1, 1) := by decide +kernel
theorem dX1_findBest_25 : decode cX1_findBest 25 = .ok (.aload_n 0, 1) := by decide +kernel
theorem dX1_findBest_26 : decode cX1_findBest 26 = .ok (.iconst 0, 1) := by decide +kernel
theorem dX1_findBest_27 : decode cX1_findBest 27 = .ok (.invokevirtual 59, 3) := by decide +kernel
theorem dX1_findBest_30 : decode cX1_findBest 30 = .ok (.iastore, 1) := by decide +kernel
theorem dX1_findBest_31 : decode cX1_findBest 31 = .ok (.aload_n 0, 1) := by decide +kernel
theorem dX1_findBest_32 : decode cX1_findBest 32 = .ok (.iload_n 1, 1) := by decide +kernel
theorem dX1_findBest_33 : decode cX1_findBest 33 = .ok (.iconst (-1), 1) := by decide +kernel
theorem dX1_findBest_34 : decode cX1_findBest 34 = .ok (.aload_n 0, 1) := by decide +kernel
theorem dX1_findBest_35 : decode cX1_findBest 35 = .ok (.getfield 37, 3) := by decide +kernel
theorem dX1_findBest_38 : decode cX1_findBest 38 = .ok (.getfield 139, 3) := by decide +kernel
theorem dX1_findBest_41 : decode cX1_findBest 41 = .ok (.aload_n 0, 1) := by decide +kernel
theorem dX1_findBest_42 : decode cX1_findBest 42 = .ok (.getfield 37, 3) := by decide +kernel
theorem dX1_findBest_45 : decode cX1_findBest 45 = .ok (.getfield 144, 3) := by decide +kernel
theorem dX1_findBest_48 : decode cX1_findBest 48 = .ok (.iadd, 1) := by decide +kernel
theorem dX1_findBest_49 : decode cX1_findBest 49 = .ok (.invokevirtual 147, 3) := by decide +kernel
theorem dX1_findBest_52 : decode cX1_findBest 52 = .ok (.iinc 1 1, 3) := by decide +kernel
theorem dX1_findBest_55 : decode cX1_findBest 55 = .ok (.goto (-48), 3) := by decide +kernel
theorem dX1_findBest_58 : decode cX1_findBest 58 = .ok (.aload_n 0, 1) := by decide +kernel
theorem dX1_findBest_59 : decode cX1_findBest 59 = .ok (.getfield 37, 3) := by decide +kernel
theorem dX1_findBest_62 : decode cX1_findBest 62 = .ok (.getfield 139, 3) := by decide +kernel
theorem dX1_findBest_65 : decode cX1_findBest 65 = .ok (.iconst 2, 1) := by decide +kernel
theorem dX1_findBest_66 : decode cX1_findBest 66 = .ok (.aload_n 0, 1) := by decide +kernel
theorem dX1_findBest_67 : decode cX1_findBest 67 = .ok (.getfield 37, 3) := by decide +kernel
theorem dX1_findBest_70 : decode cX1_findBest 70 = .ok (.getfield 144, 3) := by decide +kernel
theorem dX1_findBest_73 : decode cX1_findBest 73 = .ok (.imul, 1) := by decide +kernel
theorem dX1_findBest_74 : decode cX1_findBest 74 = .ok (.iadd, 1) := by decide +kernel
theorem dX1_findBest_75 : decode cX1_findBest 75 = .ok (.istore_n 1, 1) := by decide +kernel
theorem dX1_findBest_76 : decode cX1_findBest 76 = .ok (.iconst 0, 1) := by decide +kernel
theorem dX1_findBest_77 : decode cX1_findBest 77 = .ok (.istore_n 2, 1) := by decide +kernel
theorem dX1_findBest_78 : decode cX1_findBest 78 = .ok (.iload_n 2, 1) := by decide +kernel
theorem dX1_findBest_79 : decode cX1_findBest 79 = .ok (.bipush 40, 2) := by decide +kernel
theorem dX1_findBest_81 : decode cX1_findBest 81 = .ok (.if_icmp .ge 67, 3) := by decide +kernel
theorem dX1_findBest_84 : decode cX1_findBest 84 = .ok (.iload_n 2, 1) := by decide +kernel
theorem dX1_findBest_85 : decode cX1_findBest 85 = .ok (.iconst 1, 1) := by decide +kernel
theorem dX1_findBest_86 : decode cX1_findBest 86 = .ok (.iadd, 1) := by decide +kernel
theorem dX1_findBest_87 : decode cX1_findBest 87 = .ok (.istore_n 3, 1) := by decide +kernel
theorem dX1_findBest_88 : decode cX1_findBest 88 = .ok (.iload_n 3, 1) := by decide +kernel
theorem dX1_findBest_89 : decode cX1_findBest 89 = .ok (.bipush 40, 2) := by decide +kernel
theorem dX1_findBest_91 : decode cX1_findBest 91 = .ok (.if_icmp .ge 51, 3) := by decide +kernel
theorem dX1_findBest_94 : decode cX1_findBest 94 = .ok (.aload_n 0, 1) := by decide +kernel
theorem dX1_findBest_95 : decode cX1_findBest 95 = .ok (.getfield 34, 3) := by decide +kernel
theorem dX1_findBest_98 : decode cX1_findBest 98 = .ok (.iload_n 2, 1) := by decide +kernel
theorem dX1_findBest_99 : decode cX1_findBest 99 = .ok (.iaload, 1) := by decide +kernel
theorem dX1_findBest_100 : decode cX1_findBest 100 = .ok (.aload_n 0, 1) := by decide +kernel
theorem dX1_findBest_101 : decode cX1_findBest 101 = .ok (.getfield 34, 3) := by decide +kernel
theorem dX1_findBest_104 : decode cX1_findBest 104 = .ok (.iload_n 3, 1) := by decide +kernel
theorem dX1_findBest_105 : decode cX1_findBest 105 = .ok (.iaload, 1) := by decide +kernel
theorem dX1_findBest_106 : decode cX1_findBest 106 = .ok (.invokestatic 151, 3) := by decide +kernel
theorem dX1_findBest_109 : decode cX1_findBest 109 = .ok (.iload_n 1, 1) := by decide +kernel
theorem dX1_findBest_110 : decode cX1_findBest 110 = .ok (.isub, 1) := by decide +kernel
theorem dX1_findBest_111 : decode cX1_findBest 111 = .ok (.aload_n 0, 1) := by decide +kernel
theorem dX1_findBest_112 : decode cX1_findBest 112 = .ok (.getfield 95, 3) := by decide +kernel
theorem dX1_findBest_115 : decode cX1_findBest 115 = .ok (.if_icmp .le 21, 3) := by decide +kernel
theorem dX1_findBest_118 : decode cX1_findBest 118 = .ok (.aload_n 0, 1) := by decide +kernel
theorem dX1_findBest_119 : decode cX1_findBest 119 = .ok (.lconst 1, 1) := by decide +kernel
theorem dX1_findBest_120 : decode cX1_findBest 120 = .ok (.iload_n 2, 1) := by decide +kernel
theorem dX1_findBest_121 : decode cX1_findBest 121 = .ok (.lshl, 1) := by decide +kernel
theorem dX1_findBest_122 : decode cX1_findBest 122 = .ok (.lconst 1, 1) := by decide +kernel
theorem dX1_findBest_123 : decode cX1_findBest 123 = .ok (.iload_n 3, 1) := by decide +kernel
theorem dX1_findBest_124 : decode cX1_findBest 124 = .ok (.lshl, 1) := by decide +kernel
theorem dX1_findBest_125 : decode cX1_findBest 125 = .ok (.lor, 1) := by decide +kernel
theorem dX1_findBest_126 : decode cX1_findBest 126 = .ok (.invokevirtual 48, 3) := by decide +kernel
theorem dX1_findBest_129 : decode cX1_findBest 129 = .ok (.aload_n 0, 1) := by decide +kernel
theorem dX1_findBest_130 : decode cX1_findBest 130 = .ok (.iload_n 2, 1) := by decide +kernel
theorem dX1_findBest_131 : decode cX1_findBest 131 = .ok (.iload_n 3, 1) := by decide +kernel
theorem dX1_findBest_132 : decode cX1_findBest 132 = .ok (.iload_n 1, 1) := by decide +kernel
theorem dX1_findBest_133 : decode cX1_findBest 133 = .ok (.invokevirtual 147, 3) := by decide +kernel
theorem dX1_findBest_136 : decode cX1_findBest 136 = .ok (.iinc 3 1, 3) := by decide +kernel
theorem dX1_findBest_139 : decode cX1_findBest 139 = .ok (.goto (-51), 3) := by decide +kernel
theorem dX1_findBest_142 : decode cX1_findBest 142 = .ok (.iinc 2 1, 3) := by decide +kernel
theorem dX1_findBest_145 : decode cX1_findBest 145 = .ok (.goto (-67), 3) := by decide +kernel
theorem dX1_findBest_148 : decode cX1_findBest 148 = .ok (.aload_n 0, 1) := by decide +kernel
theorem dX1_findBest_149 : decode cX1_findBest 149 = .ok (.getfield 95, 3) := by decide +kernel
theorem dX1_findBest_152 : decode cX1_findBest 152 = .ok (.ifCond .le 7, 3) := by decide +kernel
theorem dX1_findBest_155 : decode cX1_findBest 155 = .ok (.iconst 1, 1) := by decide +kernel
theorem dX1_findBest_156 : decode cX1_findBest 156 = .ok (.goto 4, 3) := by decide +kernel
theorem dX1_findBest_159 : decode cX1_findBest 159 = .ok (.iconst 0, 1) := by decide +kernel
theorem dX1_findBest_160 : decode cX1_findBest 160 = .ok (.ireturn, 1) := by decide +kernel
theorem dX1_tally_0 : decode cX1_tally 0 = .ok (.aload_n 0, 1) := by decide +kernel
theorem dX1_tally_1 : decode cX1_tally 1 = .ok (.iconst 0, 1) := by decide +kernel
theorem dX1_tally_2 : decode cX1_tally 2 = .ok (.putfield 157, 3) := by decide +kernel
theorem dX1_tally_5 : decode cX1_tally 5 = .ok (.iconst 0, 1) := by decide +kernel
theorem dX1_tally_6 : decode cX1_tally 6 = .ok (.istore_n 3, 1) := by decide +kernel
theorem dX1_tally_7 : decode cX1_tally 7 = .ok (.iload_n 3, 1) := by decide +kernel
theorem dX1_tally_8 : decode cX1_tally 8 = .ok (.bipush 8, 2) := by decide +kernel
theorem dX1_tally_10 : decode cX1_tally 10 = .ok (.if_icmp .ge 16, 3) := by decide +kernel
theorem dX1_tally_13 : decode cX1_tally 13 = .ok (.aload_n 0, 1) := by decide +kernel
theorem dX1_tally_14 : decode cX1_tally 14 = .ok (.getfield 30, 3) := by decide +kernel
theorem dX1_tally_17 : decode cX1_tally 17 = .ok (.iload_n 3, 1) := by decide +kernel
theorem dX1_tally_18 : decode cX1_tally 18 = .ok (.iconst 0, 1) := by decide +kernel
theorem dX1_tally_19 : decode cX1_tally 19 = .ok (.iastore, 1) := by decide +kernel
theorem dX1_tally_20 : decode cX1_tally 20 = .ok (.iinc 3 1, 3) := by decide +kernel
theorem dX1_tally_23 : decode cX1_tally 23 = .ok (.goto (-16), 3) := by decide +kernel
theorem dX1_tally_26 : decode cX1_tally 26 = .ok (.iconst 0, 1) := by decide +kernel
theorem dX1_tally_27 : decode cX1_tally 27 = .ok (.istore_n 3, 1) := by decide +kernel
theorem dX1_tally_28 : decode cX1_tally 28 = .ok (.iload_n 3, 1) := by decide +kernel
theorem dX1_tally_29 : decode cX1_tally 29 = .ok (.aload_n 0, 1) := by decide +kernel
theorem dX1_tally_30 : decode cX1_tally 30 = .ok (.getfield 52, 3) := by decide +kernel
theorem dX1_tally_33 : decode cX1_tally 33 = .ok (.if_icmp .ge 50, 3) := by decide +kernel
theorem dX1_tally_36 : decode cX1_tally 36 = .ok (.aload_n 0, 1) := by decide +kernel
theorem dX1_tally_37 : decode cX1_tally 37 = .ok (.getfield 26, 3) := by decide +kernel
theorem dX1_tally_40 : decode cX1_tally 40 = .ok (.iload_n 3, 1) := by decide +kernel
theorem dX1_tally_41 : decode cX1_tally 41 = .ok (.aaload, 1) := by decide +kernel
theorem dX1_tally_42 : decode cX1_tally 42 = .ok (.lload_n 1, 1) := by decide +kernel
theorem dX1_tally_43 : decode cX1_tally 43 = .ok (.invokevirtual 160, 3) := by decide +kernel
theorem dX1_tally_46 : decode cX1_tally 46 = .ok (.ifCond .eq 31, 3) := by decide +kernel
theorem dX1_tally_49 : decode cX1_tally 49 = .ok (.aload_n 0, 1) := by decide +kernel
theorem dX1_tally_50 : decode cX1_tally 50 = .ok (.getfield 30, 3) := by decide +kernel
theorem dX1_tally_53 : decode cX1_tally 53 = .ok (.aload_n 0, 1) := by decide +kernel
theorem dX1_tally_54 : decode cX1_tally 54 = .ok (.getfield 26, 3) := by decide +kernel
theorem dX1_tally_57 : decode cX1_tally 57 = .ok (.iload_n 3, 1) := by decide +kernel
theorem dX1_tally_58 : decode cX1_tally 58 = .ok (.aaload, 1) := by decide +kernel
theorem dX1_tally_59 : decode cX1_tally 59 = .ok (.getfield 129, 3) := by decide +kernel
theorem dX1_tally_62 : decode cX1_tally 62 = .ok (.dup2, 1) := by decide +kernel
theorem dX1_tally_63 : decode cX1_tally 63 = .ok (.iaload, 1) := by decide +kernel
theorem dX1_tally_64 : decode cX1_tally 64 = .ok (.iconst 1, 1) := by decide +kernel
theorem dX1_tally_65 : decode cX1_tally 65 = .ok (.iadd, 1) := by decide +kernel
theorem dX1_tally_66 : decode cX1_tally 66 = .ok (.iastore, 1) := by decide +kernel
theorem dX1_tally_67 : decode cX1_tally 67 = .ok (.aload_n 0, 1) := by decide +kernel
theorem dX1_tally_68 : decode cX1_tally 68 = .ok (.dup, 1) := by decide +kernel
theorem dX1_tally_69 : decode cX1_tally 69 = .ok (.getfield 157, 3) := by decide +kernel
theorem dX1_tally_72 : decode cX1_tally 72 = .ok (.iconst 1, 1) := by decide +kernel
theorem dX1_tally_73 : decode cX1_tally 73 = .ok (.iadd, 1) := by decide +kernel
theorem dX1_tally_74 : decode cX1_tally 74 = .ok (.putfield 157, 3) := by decide +kernel
theorem dX1_tally_77 : decode cX1_tally 77 = .ok (.iinc 3 1, 3) := by decide +kernel
theorem dX1_tally_80 : decode cX1_tally 80 = .ok (.goto (-52), 3) := by decide +kernel
theorem dX1_tally_83 : decode cX1_tally 83 = .ok (.return_, 1) := by decide +kernel
theorem dX1_talliedCost_0 : decode cX1_talliedCost 0 = .ok (.aload_n 0, 1) := by decide +kernel
theorem dX1_talliedCost_1 : decode cX1_talliedCost 1 = .ok (.getfield 37, 3) := by decide +kernel
theorem dX1_talliedCost_4 : decode cX1_talliedCost 4 = .ok (.getfield 164, 3) := by decide +kernel
theorem dX1_talliedCost_7 : decode cX1_talliedCost 7 = .ok (.iload_n 1, 1) := by decide +kernel
theorem dX1_talliedCost_8 : decode cX1_talliedCost 8 = .ok (.iaload, 1) := by decide +kernel
theorem dX1_talliedCost_9 : decode cX1_talliedCost 9 = .ok (.aload_n 0, 1) := by decide +kernel
theorem dX1_talliedCost_10 : decode cX1_talliedCost 10 = .ok (.getfield 157, 3) := by decide +kernel
theorem dX1_talliedCost_13 : decode cX1_talliedCost 13 = .ok (.aload_n 0, 1) := by decide +kernel
theorem dX1_talliedCost_14 : decode cX1_talliedCost 14 = .ok (.getfield 30, 3) := by decide +kernel
theorem dX1_talliedCost_17 : decode cX1_talliedCost 17 = .ok (.iload_n 1, 1) := by decide +kernel
theorem dX1_talliedCost_18 : decode cX1_talliedCost 18 = .ok (.iaload, 1) := by decide +kernel
theorem dX1_talliedCost_19 : decode cX1_talliedCost 19 = .ok (.isub, 1) := by decide +kernel
theorem dX1_talliedCost_20 : decode cX1_talliedCost 20 = .ok (.imul, 1) := by decide +kernel
theorem dX1_talliedCost_21 : decode cX1_talliedCost 21 = .ok (.ireturn, 1) := by decide +kernel
theorem dX1_tryFolders_0 : decode cX1_tryFolders 0 = .ok (.aload_n 0, 1) := by decide +kernel
theorem dX1_tryFolders_1 : decode cX1_tryFolders 1 = .ok (.iconst 0, 1) := by decide +kernel
theorem dX1_tryFolders_2 : decode cX1_tryFolders 2 = .ok (.invokevirtual 59, 3) := by decide +kernel
theorem dX1_tryFolders_5 : decode cX1_tryFolders 5 = .ok (.istore 4, 2) := by decide +kernel
theorem dX1_tryFolders_7 : decode cX1_tryFolders 7 = .ok (.iconst 0, 1) := by decide +kernel
theorem dX1_tryFolders_8 : decode cX1_tryFolders 8 = .ok (.istore 5, 2) := by decide +kernel
theorem dX1_tryFolders_10 : decode cX1_tryFolders 10 = .ok (.iload 5, 2) := by decide +kernel
theorem dX1_tryFolders_12 : decode cX1_tryFolders 12 = .ok (.bipush 8, 2) := by decide +kernel
theorem dX1_tryFolders_14 : decode cX1_tryFolders 14 = .ok (.if_icmp .ge 53, 3) := by decide +kernel
theorem dX1_tryFolders_17 : decode cX1_tryFolders 17 = .ok (.iload 4, 2) := by decide +kernel
theorem dX1_tryFolders_19 : decode cX1_tryFolders 19 = .ok (.aload_n 0, 1) := by decide +kernel
theorem dX1_tryFolders_20 : decode cX1_tryFolders 20 = .ok (.iload 5, 2) := by decide +kernel
theorem dX1_tryFolders_22 : decode cX1_tryFolders 22 = .ok (.invokevirtual 59, 3) := by decide +kernel
theorem dX1_tryFolders_25 : decode cX1_tryFolders 25 = .ok (.isub, 1) := by decide +kernel
theorem dX1_tryFolders_26 : decode cX1_tryFolders 26 = .ok (.iload_n 3, 1) := by decide +kernel
theorem dX1_tryFolders_27 : decode cX1_tryFolders 27 = .ok (.isub, 1) := by decide +kernel
theorem dX1_tryFolders_28 : decode cX1_tryFolders 28 = .ok (.istore 6, 2) := by decide +kernel
theorem dX1_tryFolders_30 : decode cX1_tryFolders 30 = .ok (.iload 6, 2) := by decide +kernel
theorem dX1_tryFolders_32 : decode cX1_tryFolders 32 = .ok (.aload_n 0, 1) := by decide +kernel
theorem dX1_tryFolders_33 : decode cX1_tryFolders 33 = .ok (.getfield 95, 3) := by decide +kernel
theorem dX1_tryFolders_36 : decode cX1_tryFolders 36 = .ok (.if_icmp .le 25, 3) := by decide +kernel
theorem dX1_tryFolders_39 : decode cX1_tryFolders 39 = .ok (.aload_n 0, 1) := by decide +kernel
theorem dX1_tryFolders_40 : decode cX1_tryFolders 40 = .ok (.iload 6, 2) := by decide +kernel
theorem dX1_tryFolders_42 : decode cX1_tryFolders 42 = .ok (.putfield 95, 3) := by decide +kernel
theorem dX1_tryFolders_45 : decode cX1_tryFolders 45 = .ok (.aload_n 0, 1) := by decide +kernel
theorem dX1_tryFolders_46 : decode cX1_tryFolders 46 = .ok (.iload_n 1, 1) := by decide +kernel
theorem dX1_tryFolders_47 : decode cX1_tryFolders 47 = .ok (.putfield 73, 3) := by decide +kernel
theorem dX1_tryFolders_50 : decode cX1_tryFolders 50 = .ok (.aload_n 0, 1) := by decide +kernel
theorem dX1_tryFolders_51 : decode cX1_tryFolders 51 = .ok (.iload_n 2, 1) := by decide +kernel
theorem dX1_tryFolders_52 : decode cX1_tryFolders 52 = .ok (.putfield 76, 3) := by decide +kernel
theorem dX1_tryFolders_55 : decode cX1_tryFolders 55 = .ok (.aload_n 0, 1) := by decide +kernel
theorem dX1_tryFolders_56 : decode cX1_tryFolders 56 = .ok (.iload 5, 2) := by decide +kernel
theorem dX1_tryFolders_58 : decode cX1_tryFolders 58 = .ok (.putfield 79, 3) := by decide +kernel
theorem dX1_tryFolders_61 : decode cX1_tryFolders 61 = .ok (.iinc 5 1, 3) := by decide +kernel
theorem dX1_tryFolders_64 : decode cX1_tryFolders 64 = .ok (.goto (-54), 3) := by decide +kernel
theorem dX1_tryFolders_67 : decode cX1_tryFolders 67 = .ok (.return_, 1) := by decide +kernel
theorem dX1_nameRule_0 : decode cX1_nameRule 0 = .ok (.iconst 0, 1) := by decide +kernel
theorem dX1_nameRule_1 : decode cX1_nameRule 1 = .ok (.istore 4, 2) := by decide +kernel
theorem dX1_nameRule_3 : decode cX1_nameRule 3 = .ok (.iload 4, 2) := by decide +kernel
theorem dX1_nameRule_5 : decode cX1_nameRule 5 = .ok (.aload_n 0, 1) := by decide +kernel
theorem dX1_nameRule_6 : decode cX1_nameRule 6 = .ok (.getfield 12, 3) := by decide +kernel
theorem dX1_nameRule_9 : decode cX1_nameRule 9 = .ok (.invokevirtual 167, 3) := by decide +kernel
theorem dX1_nameRule_12 : decode cX1_nameRule 12 = .ok (.if_icmp .ge 43, 3) := by decide +kernel
theorem dX1_nameRule_15 : decode cX1_nameRule 15 = .ok (.aload_n 0, 1) := by decide +kernel
theorem dX1_nameRule_16 : decode cX1_nameRule 16 = .ok (.getfield 12, 3) := by decide +kernel
theorem dX1_nameRule_19 : decode cX1_nameRule 19 = .ok (.iload 4, 2) := by decide +kernel
theorem dX1_nameRule_21 : decode cX1_nameRule 21 = .ok (.invokevirtual 170, 3) := by decide +kernel
theorem dX1_nameRule_24 : decode cX1_nameRule 24 = .ok (.checkcast 18, 3) := by decide +kernel
theorem dX1_nameRule_27 : decode cX1_nameRule 27 = .ok (.iload_n 1, 1) := by decide +kernel
theorem dX1_nameRule_28 : decode cX1_nameRule 28 = .ok (.iload_n 2, 1) := by decide +kernel
theorem dX1_nameRule_29 : decode cX1_nameRule 29 = .ok (.iload_n 3, 1) := by decide +kernel
theorem dX1_nameRule_30 : decode cX1_nameRule 30 = .ok (.invokevirtual 174, 3) := by decide +kernel
theorem dX1_nameRule_33 : decode cX1_nameRule 33 = .ok (.ifCond .eq 16, 3) := by decide +kernel
theorem dX1_nameRule_36 : decode cX1_nameRule 36 = .ok (.aload_n 0, 1) := by decide +kernel
theorem dX1_nameRule_37 : decode cX1_nameRule 37 = .ok (.getfield 12, 3) := by decide +kernel
theorem dX1_nameRule_40 : decode cX1_nameRule 40 = .ok (.iload 4, 2) := by decide +kernel
theorem dX1_nameRule_42 : decode cX1_nameRule 42 = .ok (.invokevirtual 170, 3) := by decide +kernel
theorem dX1_nameRule_45 : decode cX1_nameRule 45 = .ok (.checkcast 18, 3) := by decide +kernel
theorem dX1_nameRule_48 : decode cX1_nameRule 48 = .ok (.areturn, 1) := by decide +kernel
theorem dX1_nameRule_49 : decode cX1_nameRule 49 = .ok (.iinc 4 1, 3) := by decide +kernel
theorem dX1_nameRule_52 : decode cX1_nameRule 52 = .ok (.goto (-49), 3) := by decide +kernel
theorem dX1_nameRule_55 : decode cX1_nameRule 55 = .ok (.iload_n 2, 1) := by decide +kernel
theorem dX1_nameRule_56 : decode cX1_nameRule 56 = .ok (.iconst (-1), 1) := by decide +kernel
theorem dX1_nameRule_57 : decode cX1_nameRule 57 = .ok (.if_icmp .ne 13, 3) := by decide +kernel
theorem dX1_nameRule_60 : decode cX1_nameRule 60 = .ok (.iconst 1, 1) := by decide +kernel
theorem dX1_nameRule_61 : decode cX1_nameRule 61 = .ok (.newarray .int, 2) := by decide +kernel
theorem dX1_nameRule_63 : decode cX1_nameRule 63 = .ok (.dup, 1) := by decide +kernel
theorem dX1_nameRule_64 : decode cX1_nameRule 64 = .ok (.iconst 0, 1) := by decide +kernel
theorem dX1_nameRule_65 : decode cX1_nameRule 65 = .ok (.iload_n 1, 1) := by decide +kernel
theorem dX1_nameRule_66 : decode cX1_nameRule 66 = .ok (.iastore, 1) := by decide +kernel
theorem dX1_nameRule_67 : decode cX1_nameRule 67 = .ok (.goto 14, 3) := by decide +kernel
theorem dX1_nameRule_70 : decode cX1_nameRule 70 = .ok (.iconst 2, 1) := by decide +kernel
theorem dX1_nameRule_71 : decode cX1_nameRule 71 = .ok (.newarray .int, 2) := by decide +kernel
theorem dX1_nameRule_73 : decode cX1_nameRule 73 = .ok (.dup, 1) := by decide +kernel
theorem dX1_nameRule_74 : decode cX1_nameRule 74 = .ok (.iconst 0, 1) := by decide +kernel
theorem dX1_nameRule_75 : decode cX1_nameRule 75 = .ok (.iload_n 1, 1) := by decide +kernel
theorem dX1_nameRule_76 : decode cX1_nameRule 76 = .ok (.iastore, 1) := by decide +kernel
theorem dX1_nameRule_77 : decode cX1_nameRule 77 = .ok (.dup, 1) := by decide +kernel
theorem dX1_nameRule_78 : decode cX1_nameRule 78 = .ok (.iconst 1, 1) := by decide +kernel
theorem dX1_nameRule_79 : decode cX1_nameRule 79 = .ok (.iload_n 2, 1) := by decide +kernel
theorem dX1_nameRule_80 : decode cX1_nameRule 80 = .ok (.iastore, 1) := by decide +kernel
theorem dX1_nameRule_81 : decode cX1_nameRule 81 = .ok (.astore 4, 2) := by decide +kernel
theorem dX1_nameRule_83 : decode cX1_nameRule 83 = .ok (.new 18, 3) := by decide +kernel
theorem dX1_nameRule_86 : decode cX1_nameRule 86 = .ok (.dup, 1) := by decide +kernel
theorem dX1_nameRule_87 : decode cX1_nameRule 87 = .ok (.bipush 100, 2) := by decide +kernel
theorem dX1_nameRule_89 : decode cX1_nameRule 89 = .ok (.aload_n 0, 1) := by decide +kernel
theorem dX1_nameRule_90 : decode cX1_nameRule 90 = .ok (.getfield 12, 3) := by decide +kernel
theorem dX1_nameRule_93 : decode cX1_nameRule 93 = .ok (.invokevirtual 167, 3) := by decide +kernel
theorem dX1_nameRule_96 : decode cX1_nameRule 96 = .ok (.iadd, 1) := by decide +kernel
theorem dX1_nameRule_97 : decode cX1_nameRule 97 = .ok (.aload 4, 2) := by decide +kernel
theorem dX1_nameRule_99 : decode cX1_nameRule 99 = .ok (.iload_n 3, 1) := by decide +kernel
theorem dX1_nameRule_100 : decode cX1_nameRule 100 = .ok (.invokespecial 178, 3) := by decide +kernel
theorem dX1_nameRule_103 : decode cX1_nameRule 103 = .ok (.astore 5, 2) := by decide +kernel
theorem dX1_nameRule_105 : decode cX1_nameRule 105 = .ok (.aload_n 0, 1) := by decide +kernel
theorem dX1_nameRule_106 : decode cX1_nameRule 106 = .ok (.getfield 12, 3) := by decide +kernel
theorem dX1_nameRule_109 : decode cX1_nameRule 109 = .ok (.aload 5, 2) := by decide +kernel
theorem dX1_nameRule_111 : decode cX1_nameRule 111 = .ok (.invokevirtual 181, 3) := by decide +kernel
theorem dX1_nameRule_114 : decode cX1_nameRule 114 = .ok (.pop, 1) := by decide +kernel
theorem dX1_nameRule_115 : decode cX1_nameRule 115 = .ok (.aload 5, 2) := by decide +kernel
theorem dX1_nameRule_117 : decode cX1_nameRule 117 = .ok (.areturn, 1) := by decide +kernel
theorem dX1_missing_0 : decode cX1_missing 0 = .ok (.iconst 0, 1) := by decide +kernel
theorem dX1_missing_1 : decode cX1_missing 1 = .ok (.istore 4, 2) := by decide +kernel
theorem dX1_missing_3 : decode cX1_missing 3 = .ok (.iconst 0, 1) := by decide +kernel
theorem dX1_missing_4 : decode cX1_missing 4 = .ok (.istore 5, 2) := by decide +kernel
theorem dX1_missing_6 : decode cX1_missing 6 = .ok (.iload 5, 2) := by decide +kernel
theorem dX1_missing_8 : decode cX1_missing 8 = .ok (.iload_n 1, 1) := by decide +kernel
theorem dX1_missing_9 : decode cX1_missing 9 = .ok (.if_icmp .ge 56, 3) := by decide +kernel
theorem dX1_missing_12 : decode cX1_missing 12 = .ok (.iconst 0, 1) := by decide +kernel
theorem dX1_missing_13 : decode cX1_missing 13 = .ok (.istore 6, 2) := by decide +kernel
theorem dX1_missing_15 : decode cX1_missing 15 = .ok (.iconst 0, 1) := by decide +kernel
theorem dX1_missing_16 : decode cX1_missing 16 = .ok (.istore 7, 2) := by decide +kernel
theorem dX1_missing_18 : decode cX1_missing 18 = .ok (.iload 7, 2) := by decide +kernel
theorem dX1_missing_20 : decode cX1_missing 20 = .ok (.iload_n 3, 1) := by decide +kernel
theorem dX1_missing_21 : decode cX1_missing 21 = .ok (.if_icmp .ge 30, 3) := by decide +kernel
theorem dX1_missing_24 : decode cX1_missing 24 = .ok (.iload 6, 2) := by decide +kernel
theorem dX1_missing_26 : decode cX1_missing 26 = .ok (.aload_n 0, 1) := by decide +kernel
theorem dX1_missing_27 : decode cX1_missing 27 = .ok (.iload 5, 2) := by decide +kernel
theorem dX1_missing_29 : decode cX1_missing 29 = .ok (.aaload, 1) := by decide +kernel
theorem dX1_missing_30 : decode cX1_missing 30 = .ok (.aload_n 2, 1) := by decide +kernel
theorem dX1_missing_31 : decode cX1_missing 31 = .ok (.iload 7, 2) := by decide +kernel
theorem dX1_missing_33 : decode cX1_missing 33 = .ok (.aaload, 1) := by decide +kernel
theorem dX1_missing_34 : decode cX1_missing 34 = .ok (.if_acmp .ne 7, 3) := by decide +kernel
theorem dX1_missing_37 : decode cX1_missing 37 = .ok (.iconst 1, 1) := by decide +kernel
theorem dX1_missing_38 : decode cX1_missing 38 = .ok (.goto 4, 3) := by decide +kernel
theorem dX1_missing_41 : decode cX1_missing 41 = .ok (.iconst 0, 1) := by decide +kernel
theorem dX1_missing_42 : decode cX1_missing 42 = .ok (.ior, 1) := by decide +kernel
theorem dX1_missing_43 : decode cX1_missing 43 = .ok (.istore 6, 2) := by decide +kernel
theorem dX1_missing_45 : decode cX1_missing 45 = .ok (.iinc 7 1, 3) := by decide +kernel
theorem dX1_missing_48 : decode cX1_missing 48 = .ok (.goto (-30), 3) := by decide +kernel
theorem dX1_missing_51 : decode cX1_missing 51 = .ok (.iload 6, 2) := by decide +kernel
theorem dX1_missing_53 : decode cX1_missing 53 = .ok (.ifCond .ne 6, 3) := by decide +kernel
theorem dX1_missing_56 : decode cX1_missing 56 = .ok (.iinc 4 1, 3) := by decide +kernel
theorem dX1_missing_59 : decode cX1_missing 59 = .ok (.iinc 5 1, 3) := by decide +kernel
theorem dX1_missing_62 : decode cX1_missing 62 = .ok (.goto (-56), 3) := by decide +kernel
theorem dX1_missing_65 : decode cX1_missing 65 = .ok (.iload 4, 2) := by decide +kernel
theorem dX1_missing_67 : decode cX1_missing 67 = .ok (.ireturn, 1) := by decide +kernel
theorem dX2_init_0 : decode cX2_init 0 = .ok (.aload_n 0, 1) := by decide +kernel
theorem dX2_init_1 : decode cX2_init 1 = .ok (.invokespecial 3, 3) := by decide +kernel
theorem dX2_init_4 : decode cX2_init 4 = .ok (.lconst 1, 1) := by decide +kernel
theorem dX2_init_5 : decode cX2_init 5 = .ok (.iconst 0, 1) := by decide +kernel
theorem dX2_init_6 : decode cX2_init 6 = .ok (.iload_n 1, 1) := by decide +kernel
theorem dX2_init_7 : decode cX2_init 7 = .ok (.iadd, 1) := by decide +kernel
theorem dX2_init_8 : decode cX2_init 8 = .ok (.lshl, 1) := by decide +kernel
theorem dX2_init_9 : decode cX2_init 9 = .ok (.iload 4, 2) := by decide +kernel
theorem dX2_init_11 : decode cX2_init 11 = .ok (.i2l, 1) := by decide +kernel
theorem dX2_init_12 : decode cX2_init 12 = .ok (.bipush 24, 2) := by decide +kernel
theorem dX2_init_14 : decode cX2_init 14 = .ok (.lshl, 1) := by decide +kernel
theorem dX2_init_15 : decode cX2_init 15 = .ok (.lor, 1) := by decide +kernel
theorem dX2_init_16 : decode cX2_init 16 = .ok (.lstore 5, 2) := by decide +kernel
theorem dX2_init_18 : decode cX2_init 18 = .ok (.iload_n 2, 1) := by decide +kernel
theorem dX2_init_19 : decode cX2_init 19 = .ok (.iconst (-1), 1) := by decide +kernel
theorem dX2_init_20 : decode cX2_init 20 = .ok (.if_icmp .eq 14, 3) := by decide +kernel
theorem dX2_init_23 : decode cX2_init 23 = .ok (.lload 5, 2) := by decide +kernel
theorem dX2_init_25 : decode cX2_init 25 = .ok (.lconst 1, 1) := by decide +kernel
theorem dX2_init_26 : decode cX2_init 26 = .ok (.bipush 16, 2) := by decide +kernel
theorem dX2_init_28 : decode cX2_init 28 = .ok (.iload_n 2, 1) := by decide +kernel
theorem dX2_init_29 : decode cX2_init 29 = .ok (.iadd, 1) := by decide +kernel
theorem dX2_init_30 : decode cX2_init 30 = .ok (.lshl, 1) := by decide +kernel
theorem dX2_init_31 : decode cX2_init 31 = .ok (.lor, 1) := by decide +kernel
theorem dX2_init_32 : decode cX2_init 32 = .ok (.lstore 5, 2) := by decide +kernel
theorem dX2_init_34 : decode cX2_init 34 = .ok (.aload_n 0, 1) := by decide +kernel
theorem dX2_init_35 : decode cX2_init 35 = .ok (.lload 5, 2) := by decide +kernel
theorem dX2_init_37 : decode cX2_init 37 = .ok (.putfield 9, 3) := by decide +kernel
theorem dX2_init_40 : decode cX2_init 40 = .ok (.aload_n 0, 1) := by decide +kernel
theorem dX2_init_41 : decode cX2_init 41 = .ok (.iload_n 3, 1) := by decide +kernel
theorem dX2_init_42 : decode cX2_init 42 = .ok (.putfield 15, 3) := by decide +kernel
theorem dX2_init_45 : decode cX2_init 45 = .ok (.aload_n 0, 1) := by decide +kernel
theorem dX2_init_46 : decode cX2_init 46 = .ok (.iconst (-1), 1) := by decide +kernel
theorem dX2_init_47 : decode cX2_init 47 = .ok (.putfield 19, 3) := by decide +kernel
theorem dX2_init_50 : decode cX2_init 50 = .ok (.return_, 1) := by decide +kernel
theorem dX2_sortBy_0 : decode cX2_sortBy 0 = .ok (.aload_n 0, 1) := by decide +kernel
theorem dX2_sortBy_1 : decode cX2_sortBy 1 = .ok (.aload_n 1, 1) := by decide +kernel
theorem dX2_sortBy_2 : decode cX2_sortBy 2 = .ok (.putfield 22, 3) := by decide +kernel
theorem dX2_sortBy_5 : decode cX2_sortBy 5 = .ok (.aload_n 0, 1) := by decide +kernel
theorem dX2_sortBy_6 : decode cX2_sortBy 6 = .ok (.aload_n 1, 1) := by decide +kernel
theorem dX2_sortBy_7 : decode cX2_sortBy 7 = .ok (.ifnonnull 7, 3) := by decide +kernel
theorem dX2_sortBy_10 : decode cX2_sortBy 10 = .ok (.iconst 0, 1) := by decide +kernel
theorem dX2_sortBy_11 : decode cX2_sortBy 11 = .ok (.goto 7, 3) := by decide +kernel
theorem dX2_sortBy_14 : decode cX2_sortBy 14 = .ok (.aload_n 1, 1) := by decide +kernel
theorem dX2_sortBy_15 : decode cX2_sortBy 15 = .ok (.getfield 26, 3) := by decide +kernel
theorem dX2_sortBy_18 : decode cX2_sortBy 18 = .ok (.putfield 31, 3) := by decide +kernel
theorem dX2_sortBy_21 : decode cX2_sortBy 21 = .ok (.aload_n 0, 1) := by decide +kernel
theorem dX2_sortBy_22 : decode cX2_sortBy 22 = .ok (.aload_n 0, 1) := by decide +kernel
theorem dX2_sortBy_23 : decode cX2_sortBy 23 = .ok (.getfield 31, 3) := by decide +kernel
theorem dX2_sortBy_26 : decode cX2_sortBy 26 = .ok (.putfield 34, 3) := by decide +kernel
theorem dX2_sortBy_29 : decode cX2_sortBy 29 = .ok (.return_, 1) := by decide +kernel
theorem dX2_passes_0 : decode cX2_passes 0 = .ok (.iload_n 1, 1) := by decide +kernel
theorem dX2_passes_1 : decode cX2_passes 1 = .ok (.sipush 1100, 3) := by decide +kernel
theorem dX2_passes_4 : decode cX2_passes 4 = .ok (.if_icmp .lt 21, 3) := by decide +kernel
theorem dX2_passes_7 : decode cX2_passes 7 = .ok (.aload_n 0, 1) := by decide +kernel
theorem dX2_passes_8 : decode cX2_passes 8 = .ok (.getfield 15, 3) := by decide +kernel
theorem dX2_passes_11 : decode cX2_passes 11 = .ok (.iload_n 1, 1) := by decide +kernel
theorem dX2_passes_12 : decode cX2_passes 12 = .ok (.sipush 1100, 3) := by decide +kernel
theorem dX2_passes_15 : decode cX2_passes 15 = .ok (.isub, 1) := by decide +kernel
theorem dX2_passes_16 : decode cX2_passes 16 = .ok (.if_icmp .ge 7, 3) := by decide +kernel
theorem dX2_passes_19 : decode cX2_passes 19 = .ok (.iconst 1, 1) := by decide +kernel
theorem dX2_passes_20 : decode cX2_passes 20 = .ok (.goto 4, 3) := by decide +kernel
theorem dX2_passes_23 : decode cX2_passes 23 = .ok (.iconst 0, 1) := by decide +kernel
theorem dX2_passes_24 : decode cX2_passes 24 = .ok (.ireturn, 1) := by decide +kernel
theorem dX2_passes_25 : decode cX2_passes 25 = .ok (.iload_n 1, 1) := by decide +kernel
theorem dX2_passes_26 : decode cX2_passes 26 = .ok (.bipush 100, 2) := by decide +kernel
theorem dX2_passes_28 : decode cX2_passes 28 = .ok (.if_icmp .lt 20, 3) := by decide +kernel
theorem dX2_passes_31 : decode cX2_passes 31 = .ok (.aload_n 0, 1) := by decide +kernel
theorem dX2_passes_32 : decode cX2_passes 32 = .ok (.getfield 15, 3) := by decide +kernel
theorem dX2_passes_35 : decode cX2_passes 35 = .ok (.iload_n 1, 1) := by decide +kernel
theorem dX2_passes_36 : decode cX2_passes 36 = .ok (.bipush 100, 2) := by decide +kernel
theorem dX2_passes_38 : decode cX2_passes 38 = .ok (.isub, 1) := by decide +kernel
theorem dX2_passes_39 : decode cX2_passes 39 = .ok (.if_icmp .le 7, 3) := by decide +kernel
theorem dX2_passes_42 : decode cX2_passes 42 = .ok (.iconst 1, 1) := by decide +kernel
theorem dX2_passes_43 : decode cX2_passes 43 = .ok (.goto 4, 3) := by decide +kernel
theorem dX2_passes_46 : decode cX2_passes 46 = .ok (.iconst 0, 1) := by decide +kernel
theorem dX2_passes_47 : decode cX2_passes 47 = .ok (.ireturn, 1) := by decide +kernel
theorem dX2_passes_48 : decode cX2_passes 48 = .ok (.aload_n 0, 1) := by decide +kernel
theorem dX2_passes_49 : decode cX2_passes 49 = .ok (.lconst 1, 1) := by decide +kernel
theorem dX2_passes_50 : decode cX2_passes 50 = .ok (.iload_n 1, 1) := by decide +kernel
theorem dX2_passes_51 : decode cX2_passes 51 = .ok (.lshl, 1) := by decide +kernel
theorem dX2_passes_52 : decode cX2_passes 52 = .ok (.invokevirtual 37, 3) := by decide +kernel
theorem dX2_passes_55 : decode cX2_passes 55 = .ok (.ireturn, 1) := by decide +kernel
theorem dX2_passesAll_0 : decode cX2_passesAll 0 = .ok (.aload_n 0, 1) := by decide +kernel
theorem dX2_passesAll_1 : decode cX2_passesAll 1 = .ok (.getfield 9, 3) := by decide +kernel
theorem dX2_passesAll_4 : decode cX2_passesAll 4 = .ok (.lload_n 1, 1) := by decide +kernel
theorem dX2_passesAll_5 : decode cX2_passesAll 5 = .ok (.land, 1) := by decide +kernel
theorem dX2_passesAll_6 : decode cX2_passesAll 6 = .ok (.lload_n 1, 1) := by decide +kernel
theorem dX2_passesAll_7 : decode cX2_passesAll 7 = .ok (.lcmp, 1) := by decide +kernel
theorem dX2_passesAll_8 : decode cX2_passesAll 8 = .ok (.ifCond .ne 7, 3) := by decide +kernel
theorem dX2_passesAll_11 : decode cX2_passesAll 11 = .ok (.iconst 1, 1) := by decide +kernel
theorem dX2_passesAll_12 : decode cX2_passesAll 12 = .ok (.goto 4, 3) := by decide +kernel
theorem dX2_passesAll_15 : decode cX2_passesAll 15 = .ok (.iconst 0, 1) := by decide +kernel
theorem dX2_passesAll_16 : decode cX2_passesAll 16 = .ok (.ireturn, 1) := by decide +kernel
theorem dX3_init_0 : decode cX3_init 0 = .ok (.aload_n 0, 1) := by decide +kernel
theorem dX3_init_1 : decode cX3_init 1 = .ok (.invokespecial 3, 3) := by decide +kernel
theorem dX3_init_4 : decode cX3_init 4 = .ok (.aload_n 0, 1) := by decide +kernel
theorem dX3_init_5 : decode cX3_init 5 = .ok (.bipush 100, 2) := by decide +kernel
theorem dX3_init_7 : decode cX3_init 7 = .ok (.anewarray 9, 3) := by decide +kernel
theorem dX3_init_10 : decode cX3_init 10 = .ok (.putfield 11, 3) := by decide +kernel
theorem dX3_init_13 : decode cX3_init 13 = .ok (.return_, 1) := by decide +kernel
theorem dX3_add_0 : decode cX3_add 0 = .ok (.aload_n 0, 1) := by decide +kernel
theorem dX3_add_1 : decode cX3_add 1 = .ok (.getfield 17, 3) := by decide +kernel
theorem dX3_add_4 : decode cX3_add 4 = .ok (.bipush 100, 2) := by decide +kernel
theorem dX3_add_6 : decode cX3_add 6 = .ok (.if_icmp .ne 5, 3) := by decide +kernel
theorem dX3_add_9 : decode cX3_add 9 = .ok (.iconst (-1), 1) := by decide +kernel
theorem dX3_add_10 : decode cX3_add 10 = .ok (.ireturn, 1) := by decide +kernel
theorem dX3_add_11 : decode cX3_add 11 = .ok (.aload_n 0, 1) := by decide +kernel
theorem dX3_add_12 : decode cX3_add 12 = .ok (.getfield 11, 3) := by decide +kernel
theorem dX3_add_15 : decode cX3_add 15 = .ok (.aload_n 0, 1) := by decide +kernel
theorem dX3_add_16 : decode cX3_add 16 = .ok (.getfield 17, 3) := by decide +kernel
theorem dX3_add_19 : decode cX3_add 19 = .ok (.aload_n 1, 1) := by decide +kernel
theorem dX3_add_20 : decode cX3_add 20 = .ok (.aastore, 1) := by decide +kernel
theorem dX3_add_21 : decode cX3_add 21 = .ok (.aload_n 0, 1) := by decide +kernel
theorem dX3_add_22 : decode cX3_add 22 = .ok (.dup, 1) := by decide +kernel
theorem dX3_add_23 : decode cX3_add 23 = .ok (.getfield 17, 3) := by decide +kernel
theorem dX3_add_26 : decode cX3_add 26 = .ok (.iconst 1, 1) := by decide +kernel
theorem dX3_add_27 : decode cX3_add 27 = .ok (.iadd, 1) := by decide +kernel
theorem dX3_add_28 : decode cX3_add 28 = .ok (.putfield 17, 3) := by decide +kernel
theorem dX3_add_31 : decode cX3_add 31 = .ok (.aload_n 0, 1) := by decide +kernel
theorem dX3_add_32 : decode cX3_add 32 = .ok (.getfield 17, 3) := by decide +kernel
theorem dX3_add_35 : decode cX3_add 35 = .ok (.iconst 1, 1) := by decide +kernel
theorem dX3_add_36 : decode cX3_add 36 = .ok (.isub, 1) := by decide +kernel
theorem dX3_add_37 : decode cX3_add 37 = .ok (.ireturn, 1) := by decide +kernel
theorem dX3_get_0 : decode cX3_get 0 = .ok (.iload_n 1, 1) := by decide +kernel
theorem dX3_get_1 : decode cX3_get 1 = .ok (.aload_n 0, 1) := by decide +kernel
theorem dX3_get_2 : decode cX3_get 2 = .ok (.getfield 17, 3) := by decide +kernel
theorem dX3_get_5 : decode cX3_get 5 = .ok (.invokestatic 21, 3) := by decide +kernel
theorem dX3_get_8 : decode cX3_get 8 = .ok (.ifCond .eq 12, 3) := by decide +kernel
theorem dX3_get_11 : decode cX3_get 11 = .ok (.aload_n 0, 1) := by decide +kernel
theorem dX3_get_12 : decode cX3_get 12 = .ok (.getfield 11, 3) := by decide +kernel
theorem dX3_get_15 : decode cX3_get 15 = .ok (.iload_n 1, 1) := by decide +kernel
theorem dX3_get_16 : decode cX3_get 16 = .ok (.aaload, 1) := by decide +kernel
theorem dX3_get_17 : decode cX3_get 17 = .ok (.goto 4, 3) := by decide +kernel
theorem dX3_get_20 : decode cX3_get 20 = .ok (.aconst_null, 1) := by decide +kernel
theorem dX3_get_21 : decode cX3_get 21 = .ok (.areturn, 1) := by decide +kernel
theorem dX3_sortedBy_0 : decode cX3_sortedBy 0 = .ok (.iconst 0, 1) := by decide +kernel
theorem dX3_sortedBy_1 : decode cX3_sortedBy 1 = .ok (.istore_n 2, 1) := by decide +kernel
theorem dX3_sortedBy_2 : decode cX3_sortedBy 2 = .ok (.iconst 0, 1) := by decide +kernel
theorem dX3_sortedBy_3 : decode cX3_sortedBy 3 = .ok (.istore_n 3, 1) := by decide +kernel
theorem dX3_sortedBy_4 : decode cX3_sortedBy 4 = .ok (.iload_n 3, 1) := by decide +kernel
theorem dX3_sortedBy_5 : decode cX3_sortedBy 5 = .ok (.aload_n 0, 1) := by decide +kernel
theorem dX3_sortedBy_6 : decode cX3_sortedBy 6 = .ok (.getfield 17, 3) := by decide +kernel
theorem dX3_sortedBy_9 : decode cX3_sortedBy 9 = .ok (.if_icmp .ge 25, 3) := by decide +kernel
theorem dX3_sortedBy_12 : decode cX3_sortedBy 12 = .ok (.aload_n 0, 1) := by decide +kernel
theorem dX3_sortedBy_13 : decode cX3_sortedBy 13 = .ok (.getfield 11, 3) := by decide +kernel
theorem dX3_sortedBy_16 : decode cX3_sortedBy 16 = .ok (.iload_n 3, 1) := by decide +kernel
theorem dX3_sortedBy_17 : decode cX3_sortedBy 17 = .ok (.aaload, 1) := by decide +kernel
theorem dX3_sortedBy_18 : decode cX3_sortedBy 18 = .ok (.getfield 25, 3) := by decide +kernel
theorem dX3_sortedBy_21 : decode cX3_sortedBy 21 = .ok (.aload_n 1, 1) := by decide +kernel
theorem dX3_sortedBy_22 : decode cX3_sortedBy 22 = .ok (.if_acmp .ne 6, 3) := by decide +kernel
theorem dX3_sortedBy_25 : decode cX3_sortedBy 25 = .ok (.iinc 2 1, 3) := by decide +kernel
theorem dX3_sortedBy_28 : decode cX3_sortedBy 28 = .ok (.iinc 3 1, 3) := by decide +kernel
theorem dX3_sortedBy_31 : decode cX3_sortedBy 31 = .ok (.goto (-27), 3) := by decide +kernel
theorem dX3_sortedBy_34 : decode cX3_sortedBy 34 = .ok (.iload_n 2, 1) := by decide +kernel
theorem dX3_sortedBy_35 : decode cX3_sortedBy 35 = .ok (.ireturn, 1) := by decide +kernel
theorem dX3_rightBy_0 : decode cX3_rightBy 0 = .ok (.iconst 0, 1) := by decide +kernel
theorem dX3_rightBy_1 : decode cX3_rightBy 1 = .ok (.istore_n 2, 1) := by decide +kernel
theorem dX3_rightBy_2 : decode cX3_rightBy 2 = .ok (.iconst 0, 1) := by decide +kernel
theorem dX3_rightBy_3 : decode cX3_rightBy 3 = .ok (.istore_n 3, 1) := by decide +kernel
theorem dX3_rightBy_4 : decode cX3_rightBy 4 = .ok (.iload_n 3, 1) := by decide +kernel
theorem dX3_rightBy_5 : decode cX3_rightBy 5 = .ok (.aload_n 0, 1) := by decide +kernel
theorem dX3_rightBy_6 : decode cX3_rightBy 6 = .ok (.getfield 17, 3) := by decide +kernel
theorem dX3_rightBy_9 : decode cX3_rightBy 9 = .ok (.if_icmp .ge 41, 3) := by decide +kernel
theorem dX3_rightBy_12 : decode cX3_rightBy 12 = .ok (.aload_n 0, 1) := by decide +kernel
theorem dX3_rightBy_13 : decode cX3_rightBy 13 = .ok (.getfield 11, 3) := by decide +kernel
theorem dX3_rightBy_16 : decode cX3_rightBy 16 = .ok (.iload_n 3, 1) := by decide +kernel
theorem dX3_rightBy_17 : decode cX3_rightBy 17 = .ok (.aaload, 1) := by decide +kernel
theorem dX3_rightBy_18 : decode cX3_rightBy 18 = .ok (.getfield 25, 3) := by decide +kernel
theorem dX3_rightBy_21 : decode cX3_rightBy 21 = .ok (.aload_n 1, 1) := by decide +kernel
theorem dX3_rightBy_22 : decode cX3_rightBy 22 = .ok (.if_acmp .ne 22, 3) := by decide +kernel
theorem dX3_rightBy_25 : decode cX3_rightBy 25 = .ok (.aload_n 0, 1) := by decide +kernel
theorem dX3_rightBy_26 : decode cX3_rightBy 26 = .ok (.getfield 11, 3) := by decide +kernel
theorem dX3_rightBy_29 : decode cX3_rightBy 29 = .ok (.iload_n 3, 1) := by decide +kernel
theorem dX3_rightBy_30 : decode cX3_rightBy 30 = .ok (.aaload, 1) := by decide +kernel
theorem dX3_rightBy_31 : decode cX3_rightBy 31 = .ok (.getfield 29, 3) := by decide +kernel
theorem dX3_rightBy_34 : decode cX3_rightBy 34 = .ok (.aload_n 1, 1) := by decide +kernel
theorem dX3_rightBy_35 : decode cX3_rightBy 35 = .ok (.getfield 32, 3) := by decide +kernel
theorem dX3_rightBy_38 : decode cX3_rightBy 38 = .ok (.if_icmp .ne 6, 3) := by decide +kernel
theorem dX3_rightBy_41 : decode cX3_rightBy 41 = .ok (.iinc 2 1, 3) := by decide +kernel
theorem dX3_rightBy_44 : decode cX3_rightBy 44 = .ok (.iinc 3 1, 3) := by decide +kernel
theorem dX3_rightBy_47 : decode cX3_rightBy 47 = .ok (.goto (-43), 3) := by decide +kernel
theorem dX3_rightBy_50 : decode cX3_rightBy 50 = .ok (.iload_n 2, 1) := by decide +kernel
theorem dX3_rightBy_51 : decode cX3_rightBy 51 = .ok (.ireturn, 1) := by decide +kernel
theorem dX3_wrongBy_0 : decode cX3_wrongBy 0 = .ok (.iconst 0, 1) := by decide +kernel
theorem dX3_wrongBy_1 : decode cX3_wrongBy 1 = .ok (.istore_n 2, 1) := by decide +kernel
theorem dX3_wrongBy_2 : decode cX3_wrongBy 2 = .ok (.iconst 0, 1) := by decide +kernel
theorem dX3_wrongBy_3 : decode cX3_wrongBy 3 = .ok (.istore_n 3, 1) := by decide +kernel
theorem dX3_wrongBy_4 : decode cX3_wrongBy 4 = .ok (.iload_n 3, 1) := by decide +kernel
theorem dX3_wrongBy_5 : decode cX3_wrongBy 5 = .ok (.aload_n 0, 1) := by decide +kernel
theorem dX3_wrongBy_6 : decode cX3_wrongBy 6 = .ok (.getfield 17, 3) := by decide +kernel
theorem dX3_wrongBy_9 : decode cX3_wrongBy 9 = .ok (.if_icmp .ge 50, 3) := by decide +kernel
theorem dX3_wrongBy_12 : decode cX3_wrongBy 12 = .ok (.aload_n 0, 1) := by decide +kernel
theorem dX3_wrongBy_13 : decode cX3_wrongBy 13 = .ok (.getfield 11, 3) := by decide +kernel
theorem dX3_wrongBy_16 : decode cX3_wrongBy 16 = .ok (.iload_n 3, 1) := by decide +kernel
theorem dX3_wrongBy_17 : decode cX3_wrongBy 17 = .ok (.aaload, 1) := by decide +kernel
theorem dX3_wrongBy_18 : decode cX3_wrongBy 18 = .ok (.astore 4, 2) := by decide +kernel
theorem dX3_wrongBy_20 : decode cX3_wrongBy 20 = .ok (.aload 4, 2) := by decide +kernel
theorem dX3_wrongBy_22 : decode cX3_wrongBy 22 = .ok (.getfield 25, 3) := by decide +kernel
theorem dX3_wrongBy_25 : decode cX3_wrongBy 25 = .ok (.aload_n 1, 1) := by decide +kernel
theorem dX3_wrongBy_26 : decode cX3_wrongBy 26 = .ok (.if_acmp .ne 27, 3) := by decide +kernel
theorem dX3_wrongBy_29 : decode cX3_wrongBy 29 = .ok (.aload 4, 2) := by decide +kernel
theorem dX3_wrongBy_31 : decode cX3_wrongBy 31 = .ok (.getfield 29, 3) := by decide +kernel
theorem dX3_wrongBy_34 : decode cX3_wrongBy 34 = .ok (.iconst (-1), 1) := by decide +kernel
theorem dX3_wrongBy_35 : decode cX3_wrongBy 35 = .ok (.if_icmp .eq 18, 3) := by decide +kernel
theorem dX3_wrongBy_38 : decode cX3_wrongBy 38 = .ok (.aload 4, 2) := by decide +kernel
theorem dX3_wrongBy_40 : decode cX3_wrongBy 40 = .ok (.getfield 29, 3) := by decide +kernel
theorem dX3_wrongBy_43 : decode cX3_wrongBy 43 = .ok (.aload_n 1, 1) := by decide +kernel
theorem dX3_wrongBy_44 : decode cX3_wrongBy 44 = .ok (.getfield 32, 3) := by decide +kernel
theorem dX3_wrongBy_47 : decode cX3_wrongBy 47 = .ok (.if_icmp .eq 6, 3) := by decide +kernel
theorem dX3_wrongBy_50 : decode cX3_wrongBy 50 = .ok (.iinc 2 1, 3) := by decide +kernel
theorem dX3_wrongBy_53 : decode cX3_wrongBy 53 = .ok (.iinc 3 1, 3) := by decide +kernel
theorem dX3_wrongBy_56 : decode cX3_wrongBy 56 = .ok (.goto (-52), 3) := by decide +kernel
theorem dX3_wrongBy_59 : decode cX3_wrongBy 59 = .ok (.iload_n 2, 1) := by decide +kernel
theorem dX3_wrongBy_60 : decode cX3_wrongBy 60 = .ok (.ireturn, 1) := by decide +kernel
theorem dX3_lastBy_0 : decode cX3_lastBy 0 = .ok (.aload_n 0, 1) := by decide +kernel
theorem dX3_lastBy_1 : decode cX3_lastBy 1 = .ok (.getfield 17, 3) := by decide +kernel
theorem dX3_lastBy_4 : decode cX3_lastBy 4 = .ok (.iconst 1, 1) := by decide +kernel
theorem dX3_lastBy_5 : decode cX3_lastBy 5 = .ok (.isub, 1) := by decide +kernel
theorem dX3_lastBy_6 : decode cX3_lastBy 6 = .ok (.istore_n 2, 1) := by decide +kernel
theorem dX3_lastBy_7 : decode cX3_lastBy 7 = .ok (.iload_n 2, 1) := by decide +kernel
theorem dX3_lastBy_8 : decode cX3_lastBy 8 = .ok (.ifCond .lt 24, 3) := by decide +kernel
theorem dX3_lastBy_11 : decode cX3_lastBy 11 = .ok (.aload_n 0, 1) := by decide +kernel
theorem dX3_lastBy_12 : decode cX3_lastBy 12 = .ok (.getfield 11, 3) := by decide +kernel
theorem dX3_lastBy_15 : decode cX3_lastBy 15 = .ok (.iload_n 2, 1) := by decide +kernel
theorem dX3_lastBy_16 : decode cX3_lastBy 16 = .ok (.aaload, 1) := by decide +kernel
theorem dX3_lastBy_17 : decode cX3_lastBy 17 = .ok (.getfield 25, 3) := by decide +kernel
theorem dX3_lastBy_20 : decode cX3_lastBy 20 = .ok (.aload_n 1, 1) := by decide +kernel
theorem dX3_lastBy_21 : decode cX3_lastBy 21 = .ok (.if_acmp .ne 5, 3) := by decide +kernel
theorem dX3_lastBy_24 : decode cX3_lastBy 24 = .ok (.iload_n 2, 1) := by decide +kernel
theorem dX3_lastBy_25 : decode cX3_lastBy 25 = .ok (.ireturn, 1) := by decide +kernel
theorem dX3_lastBy_26 : decode cX3_lastBy 26 = .ok (.iinc 2 (-1), 3) := by decide +kernel
theorem dX3_lastBy_29 : decode cX3_lastBy 29 = .ok (.goto (-22), 3) := by decide +kernel
theorem dX3_lastBy_32 : decode cX3_lastBy 32 = .ok (.iconst (-1), 1) := by decide +kernel
theorem dX3_lastBy_33 : decode cX3_lastBy 33 = .ok (.ireturn, 1) := by decide +kernel
theorem dX3_unsortedPassing_0 : decode cX3_unsortedPassing 0 = .ok (.iconst 0, 1) := by decide +kernel
theorem dX3_unsortedPassing_1 : decode cX3_unsortedPassing 1 = .ok (.istore_n 2, 1) := by decide +kernel
theorem dX3_unsortedPassing_2 : decode cX3_unsortedPassing 2 = .ok (.iconst 0, 1) := by decide +kernel
theorem dX3_unsortedPassing_3 : decode cX3_unsortedPassing 3 = .ok (.istore_n 3, 1) := by decide +kernel
theorem dX3_unsortedPassing_4 : decode cX3_unsortedPassing 4 = .ok (.iload_n 3, 1) := by decide +kernel
theorem dX3_unsortedPassing_5 : decode cX3_unsortedPassing 5 = .ok (.aload_n 0, 1) := by decide +kernel
theorem dX3_unsortedPassing_6 : decode cX3_unsortedPassing 6 = .ok (.getfield 17, 3) := by decide +kernel
theorem dX3_unsortedPassing_9 : decode cX3_unsortedPassing 9 = .ok (.if_icmp .ge 46, 3) := by decide +kernel
theorem dX3_unsortedPassing_12 : decode cX3_unsortedPassing 12 = .ok (.aload_n 0, 1) := by decide +kernel
theorem dX3_unsortedPassing_13 : decode cX3_unsortedPassing 13 = .ok (.getfield 11, 3) := by decide +kernel
theorem dX3_unsortedPassing_16 : decode cX3_unsortedPassing 16 = .ok (.iload_n 3, 1) := by decide +kernel
theorem dX3_unsortedPassing_17 : decode cX3_unsortedPassing 17 = .ok (.aaload, 1) := by decide +kernel
theorem dX3_unsortedPassing_18 : decode cX3_unsortedPassing 18 = .ok (.astore 4, 2) := by decide +kernel
theorem dX3_unsortedPassing_20 : decode cX3_unsortedPassing 20 = .ok (.aload 4, 2) := by decide +kernel
theorem dX3_unsortedPassing_22 : decode cX3_unsortedPassing 22 = .ok (.getfield 25, 3) := by decide +kernel
theorem dX3_unsortedPassing_25 : decode cX3_unsortedPassing 25 = .ok (.ifnonnull 24, 3) := by decide +kernel
theorem dX3_unsortedPassing_28 : decode cX3_unsortedPassing 28 = .ok (.aload 4, 2) := by decide +kernel
theorem dX3_unsortedPassing_30 : decode cX3_unsortedPassing 30 = .ok (.getfield 29, 3) := by decide +kernel
theorem dX3_unsortedPassing_33 : decode cX3_unsortedPassing 33 = .ok (.iconst (-1), 1) := by decide +kernel
theorem dX3_unsortedPassing_34 : decode cX3_unsortedPassing 34 = .ok (.if_icmp .ne 15, 3) := by decide +kernel
theorem dX3_unsortedPassing_37 : decode cX3_unsortedPassing 37 = .ok (.aload 4, 2) := by decide +kernel
theorem dX3_unsortedPassing_39 : decode cX3_unsortedPassing 39 = .ok (.iload_n 1, 1) := by decide +kernel
theorem dX3_unsortedPassing_40 : decode cX3_unsortedPassing 40 = .ok (.invokevirtual 37, 3) := by decide +kernel
theorem dX3_unsortedPassing_43 : decode cX3_unsortedPassing 43 = .ok (.ifCond .eq 6, 3) := by decide +kernel
theorem dX3_unsortedPassing_46 : decode cX3_unsortedPassing 46 = .ok (.iinc 2 1, 3) := by decide +kernel
theorem dX3_unsortedPassing_49 : decode cX3_unsortedPassing 49 = .ok (.iinc 3 1, 3) := by decide +kernel
theorem dX3_unsortedPassing_52 : decode cX3_unsortedPassing 52 = .ok (.goto (-48), 3) := by decide +kernel
theorem dX3_unsortedPassing_55 : decode cX3_unsortedPassing 55 = .ok (.iload_n 2, 1) := by decide +kernel
theorem dX3_unsortedPassing_56 : decode cX3_unsortedPassing 56 = .ok (.ireturn, 1) := by decide +kernel
theorem dX3_lyingIn_0 : decode cX3_lyingIn 0 = .ok (.iconst 0, 1) := by decide +kernel
theorem dX3_lyingIn_1 : decode cX3_lyingIn 1 = .ok (.istore_n 2, 1) := by decide +kernel
theorem dX3_lyingIn_2 : decode cX3_lyingIn 2 = .ok (.iconst 0, 1) := by decide +kernel
theorem dX3_lyingIn_3 : decode cX3_lyingIn 3 = .ok (.istore_n 3, 1) := by decide +kernel
theorem dX3_lyingIn_4 : decode cX3_lyingIn 4 = .ok (.iload_n 3, 1) := by decide +kernel
theorem dX3_lyingIn_5 : decode cX3_lyingIn 5 = .ok (.aload_n 0, 1) := by decide +kernel
theorem dX3_lyingIn_6 : decode cX3_lyingIn 6 = .ok (.getfield 17, 3) := by decide +kernel
theorem dX3_lyingIn_9 : decode cX3_lyingIn 9 = .ok (.if_icmp .ge 25, 3) := by decide +kernel
theorem dX3_lyingIn_12 : decode cX3_lyingIn 12 = .ok (.aload_n 0, 1) := by decide +kernel
theorem dX3_lyingIn_13 : decode cX3_lyingIn 13 = .ok (.getfield 11, 3) := by decide +kernel
theorem dX3_lyingIn_16 : decode cX3_lyingIn 16 = .ok (.iload_n 3, 1) := by decide +kernel
theorem dX3_lyingIn_17 : decode cX3_lyingIn 17 = .ok (.aaload, 1) := by decide +kernel
theorem dX3_lyingIn_18 : decode cX3_lyingIn 18 = .ok (.getfield 41, 3) := by decide +kernel
theorem dX3_lyingIn_21 : decode cX3_lyingIn 21 = .ok (.iload_n 1, 1) := by decide +kernel
theorem dX3_lyingIn_22 : decode cX3_lyingIn 22 = .ok (.if_icmp .ne 6, 3) := by decide +kernel
theorem dX3_lyingIn_25 : decode cX3_lyingIn 25 = .ok (.iinc 2 1, 3) := by decide +kernel
theorem dX3_lyingIn_28 : decode cX3_lyingIn 28 = .ok (.iinc 3 1, 3) := by decide +kernel
theorem dX3_lyingIn_31 : decode cX3_lyingIn 31 = .ok (.goto (-27), 3) := by decide +kernel
theorem dX3_lyingIn_34 : decode cX3_lyingIn 34 = .ok (.iload_n 2, 1) := by decide +kernel
theorem dX3_lyingIn_35 : decode cX3_lyingIn 35 = .ok (.ireturn, 1) := by decide +kernel
theorem dX4_init_0 : decode cX4_init 0 = .ok (.aload_n 0, 1) := by decide +kernel
theorem dX4_init_1 : decode cX4_init 1 = .ok (.invokespecial 3, 3) := by decide +kernel
theorem dX4_init_4 : decode cX4_init 4 = .ok (.aload_n 0, 1) := by decide +kernel
theorem dX4_init_5 : decode cX4_init 5 = .ok (.sipush 200, 3) := by decide +kernel
theorem dX4_init_8 : decode cX4_init 8 = .ok (.newarray .int, 2) := by decide +kernel
theorem dX4_init_10 : decode cX4_init 10 = .ok (.putfield 9, 3) := by decide +kernel
theorem dX4_init_13 : decode cX4_init 13 = .ok (.aload_n 0, 1) := by decide +kernel
theorem dX4_init_14 : decode cX4_init 14 = .ok (.sipush 200, 3) := by decide +kernel
theorem dX4_init_17 : decode cX4_init 17 = .ok (.newarray .int, 2) := by decide +kernel
theorem dX4_init_19 : decode cX4_init 19 = .ok (.putfield 15, 3) := by decide +kernel
theorem dX4_init_22 : decode cX4_init 22 = .ok (.aload_n 0, 1) := by decide +kernel
theorem dX4_init_23 : decode cX4_init 23 = .ok (.sipush 200, 3) := by decide +kernel
theorem dX4_init_26 : decode cX4_init 26 = .ok (.newarray .int, 2) := by decide +kernel
theorem dX4_init_28 : decode cX4_init 28 = .ok (.putfield 18, 3) := by decide +kernel
theorem dX4_init_31 : decode cX4_init 31 = .ok (.return_, 1) := by decide +kernel
theorem dX4_push_0 : decode cX4_push 0 = .ok (.aload_n 0, 1) := by decide +kernel
theorem dX4_push_1 : decode cX4_push 1 = .ok (.getfield 21, 3) := by decide +kernel
theorem dX4_push_4 : decode cX4_push 4 = .ok (.sipush 200, 3) := by decide +kernel
theorem dX4_push_7 : decode cX4_push 7 = .ok (.if_icmp .ge 49, 3) := by decide +kernel
theorem dX4_push_10 : decode cX4_push 10 = .ok (.aload_n 0, 1) := by decide +kernel
theorem dX4_push_11 : decode cX4_push 11 = .ok (.getfield 9, 3) := by decide +kernel
theorem dX4_push_14 : decode cX4_push 14 = .ok (.aload_n 0, 1) := by decide +kernel
theorem dX4_push_15 : decode cX4_push 15 = .ok (.getfield 21, 3) := by decide +kernel
theorem dX4_push_18 : decode cX4_push 18 = .ok (.iload_n 1, 1) := by decide +kernel
theorem dX4_push_19 : decode cX4_push 19 = .ok (.iastore, 1) := by decide +kernel
theorem dX4_push_20 : decode cX4_push 20 = .ok (.aload_n 0, 1) := by decide +kernel
theorem dX4_push_21 : decode cX4_push 21 = .ok (.getfield 15, 3) := by decide +kernel
theorem dX4_push_24 : decode cX4_push 24 = .ok (.aload_n 0, 1) := by decide +kernel
theorem dX4_push_25 : decode cX4_push 25 = .ok (.getfield 21, 3) := by decide +kernel
theorem dX4_push_28 : decode cX4_push 28 = .ok (.aload_n 2, 1) := by decide +kernel
theorem dX4_push_29 : decode cX4_push 29 = .ok (.getfield 25, 3) := by decide +kernel
theorem dX4_push_32 : decode cX4_push 32 = .ok (.iastore, 1) := by decide +kernel
theorem dX4_push_33 : decode cX4_push 33 = .ok (.aload_n 0, 1) := by decide +kernel
theorem dX4_push_34 : decode cX4_push 34 = .ok (.getfield 18, 3) := by decide +kernel
theorem dX4_push_37 : decode cX4_push 37 = .ok (.aload_n 0, 1) := by decide +kernel
theorem dX4_push_38 : decode cX4_push 38 = .ok (.getfield 21, 3) := by decide +kernel
theorem dX4_push_41 : decode cX4_push 41 = .ok (.aload_n 2, 1) := by decide +kernel
theorem dX4_push_42 : decode cX4_push 42 = .ok (.getfield 30, 3) := by decide +kernel
theorem dX4_push_45 : decode cX4_push 45 = .ok (.iastore, 1) := by decide +kernel
theorem dX4_push_46 : decode cX4_push 46 = .ok (.aload_n 0, 1) := by decide +kernel
theorem dX4_push_47 : decode cX4_push 47 = .ok (.dup, 1) := by decide +kernel
theorem dX4_push_48 : decode cX4_push 48 = .ok (.getfield 21, 3) := by decide +kernel
theorem dX4_push_51 : decode cX4_push 51 = .ok (.iconst 1, 1) := by decide +kernel
theorem dX4_push_52 : decode cX4_push 52 = .ok (.iadd, 1) := by decide +kernel
theorem dX4_push_53 : decode cX4_push 53 = .ok (.putfield 21, 3) := by decide +kernel
theorem dX4_push_56 : decode cX4_push 56 = .ok (.return_, 1) := by decide +kernel
theorem dX4_takeBack_0 : decode cX4_takeBack 0 = .ok (.aload_n 0, 1) := by decide +kernel
theorem dX4_takeBack_1 : decode cX4_takeBack 1 = .ok (.getfield 21, 3) := by decide +kernel
theorem dX4_takeBack_4 : decode cX4_takeBack 4 = .ok (.ifCond .ne 5, 3) := by decide +kernel
theorem dX4_takeBack_7 : decode cX4_takeBack 7 = .ok (.iconst (-1), 1) := by decide +kernel
theorem dX4_takeBack_8 : decode cX4_takeBack 8 = .ok (.ireturn, 1) := by decide +kernel
theorem dX4_takeBack_9 : decode cX4_takeBack 9 = .ok (.aload_n 0, 1) := by decide +kernel
theorem dX4_takeBack_10 : decode cX4_takeBack 10 = .ok (.dup, 1) := by decide +kernel
theorem dX4_takeBack_11 : decode cX4_takeBack 11 = .ok (.getfield 21, 3) := by decide +kernel
theorem dX4_takeBack_14 : decode cX4_takeBack 14 = .ok (.iconst 1, 1) := by decide +kernel
theorem dX4_takeBack_15 : decode cX4_takeBack 15 = .ok (.isub, 1) := by decide +kernel
theorem dX4_takeBack_16 : decode cX4_takeBack 16 = .ok (.putfield 21, 3) := by decide +kernel
theorem dX4_takeBack_19 : decode cX4_takeBack 19 = .ok (.aload_n 1, 1) := by decide +kernel
theorem dX4_takeBack_20 : decode cX4_takeBack 20 = .ok (.aload_n 0, 1) := by decide +kernel
theorem dX4_takeBack_21 : decode cX4_takeBack 21 = .ok (.getfield 9, 3) := by decide +kernel
theorem dX4_takeBack_24 : decode cX4_takeBack 24 = .ok (.aload_n 0, 1) := by decide +kernel
theorem dX4_takeBack_25 : decode cX4_takeBack 25 = .ok (.getfield 21, 3) := by decide +kernel
theorem dX4_takeBack_28 : decode cX4_takeBack 28 = .ok (.iaload, 1) := by decide +kernel
theorem dX4_takeBack_29 : decode cX4_takeBack 29 = .ok (.invokevirtual 33, 3) := by decide +kernel
theorem dX4_takeBack_32 : decode cX4_takeBack 32 = .ok (.astore_n 2, 1) := by decide +kernel
theorem dX4_takeBack_33 : decode cX4_takeBack 33 = .ok (.aload_n 2, 1) := by decide +kernel
theorem dX4_takeBack_34 : decode cX4_takeBack 34 = .ok (.ifnull 29, 3) := by decide +kernel
theorem dX4_takeBack_37 : decode cX4_takeBack 37 = .ok (.aload_n 2, 1) := by decide +kernel
theorem dX4_takeBack_38 : decode cX4_takeBack 38 = .ok (.aload_n 0, 1) := by decide +kernel
theorem dX4_takeBack_39 : decode cX4_takeBack 39 = .ok (.getfield 15, 3) := by decide +kernel
theorem dX4_takeBack_42 : decode cX4_takeBack 42 = .ok (.aload_n 0, 1) := by decide +kernel
theorem dX4_takeBack_43 : decode cX4_takeBack 43 = .ok (.getfield 21, 3) := by decide +kernel
theorem dX4_takeBack_46 : decode cX4_takeBack 46 = .ok (.iaload, 1) := by decide +kernel
theorem dX4_takeBack_47 : decode cX4_takeBack 47 = .ok (.putfield 25, 3) := by decide +kernel
theorem dX4_takeBack_50 : decode cX4_takeBack 50 = .ok (.aload_n 2, 1) := by decide +kernel
theorem dX4_takeBack_51 : decode cX4_takeBack 51 = .ok (.aload_n 0, 1) := by decide +kernel
theorem dX4_takeBack_52 : decode cX4_takeBack 52 = .ok (.getfield 18, 3) := by decide +kernel
theorem dX4_takeBack_55 : decode cX4_takeBack 55 = .ok (.aload_n 0, 1) := by decide +kernel
theorem dX4_takeBack_56 : decode cX4_takeBack 56 = .ok (.getfield 21, 3) := by decide +kernel
theorem dX4_takeBack_59 : decode cX4_takeBack 59 = .ok (.iaload, 1) := by decide +kernel
theorem dX4_takeBack_60 : decode cX4_takeBack 60 = .ok (.putfield 30, 3) := by decide +kernel
theorem dX4_takeBack_63 : decode cX4_takeBack 63 = .ok (.aload_n 0, 1) := by decide +kernel
theorem dX4_takeBack_64 : decode cX4_takeBack 64 = .ok (.getfield 9, 3) := by decide +kernel
theorem dX4_takeBack_67 : decode cX4_takeBack 67 = .ok (.aload_n 0, 1) := by decide +kernel
theorem dX4_takeBack_68 : decode cX4_takeBack 68 = .ok (.getfield 21, 3) := by decide +kernel
theorem dX4_takeBack_71 : decode cX4_takeBack 71 = .ok (.iaload, 1) := by decide +kernel
theorem dX4_takeBack_72 : decode cX4_takeBack 72 = .ok (.ireturn, 1) := by decide +kernel
theorem dX5_init_0 : decode cX5_init 0 = .ok (.aload_n 0, 1) := by decide +kernel
theorem dX5_init_1 : decode cX5_init 1 = .ok (.invokespecial 3, 3) := by decide +kernel
theorem dX5_init_4 : decode cX5_init 4 = .ok (.aload_n 0, 1) := by decide +kernel
theorem dX5_init_5 : decode cX5_init 5 = .ok (.bipush 10, 2) := by decide +kernel
theorem dX5_init_7 : decode cX5_init 7 = .ok (.anewarray 9, 3) := by decide +kernel
theorem dX5_init_10 : decode cX5_init 10 = .ok (.putfield 11, 3) := by decide +kernel
theorem dX5_init_13 : decode cX5_init 13 = .ok (.aload_n 0, 1) := by decide +kernel
theorem dX5_init_14 : decode cX5_init 14 = .ok (.bipush 6, 2) := by decide +kernel
theorem dX5_init_16 : decode cX5_init 16 = .ok (.anewarray 9, 3) := by decide +kernel
theorem dX5_init_19 : decode cX5_init 19 = .ok (.putfield 17, 3) := by decide +kernel
theorem dX5_init_22 : decode cX5_init 22 = .ok (.return_, 1) := by decide +kernel
theorem dX5_freeHandNumber_0 : decode cX5_freeHandNumber 0 = .ok (.iconst 0, 1) := by decide +kernel
theorem dX5_freeHandNumber_1 : decode cX5_freeHandNumber 1 = .ok (.istore_n 1, 1) := by decide +kernel
theorem dX5_freeHandNumber_2 : decode cX5_freeHandNumber 2 = .ok (.iload_n 1, 1) := by decide +kernel
theorem dX5_freeHandNumber_3 : decode cX5_freeHandNumber 3 = .ok (.bipush 10, 2) := by decide +kernel
theorem dX5_freeHandNumber_5 : decode cX5_freeHandNumber 5 = .ok (.if_icmp .ge 20, 3) := by decide +kernel
theorem dX5_freeHandNumber_8 : decode cX5_freeHandNumber 8 = .ok (.aload_n 0, 1) := by decide +kernel
theorem dX5_freeHandNumber_9 : decode cX5_freeHandNumber 9 = .ok (.getfield 11, 3) := by decide +kernel
theorem dX5_freeHandNumber_12 : decode cX5_freeHandNumber 12 = .ok (.iload_n 1, 1) := by decide +kernel
theorem dX5_freeHandNumber_13 : decode cX5_freeHandNumber 13 = .ok (.aaload, 1) := by decide +kernel
theorem dX5_freeHandNumber_14 : decode cX5_freeHandNumber 14 = .ok (.ifnonnull 5, 3) := by decide +kernel
theorem dX5_freeHandNumber_17 : decode cX5_freeHandNumber 17 = .ok (.iload_n 1, 1) := by decide +kernel
theorem dX5_freeHandNumber_18 : decode cX5_freeHandNumber 18 = .ok (.ireturn, 1) := by decide +kernel
theorem dX5_freeHandNumber_19 : decode cX5_freeHandNumber 19 = .ok (.iinc 1 1, 3) := by decide +kernel
theorem dX5_freeHandNumber_22 : decode cX5_freeHandNumber 22 = .ok (.goto (-20), 3) := by decide +kernel
theorem dX5_freeHandNumber_25 : decode cX5_freeHandNumber 25 = .ok (.iconst (-1), 1) := by decide +kernel
theorem dX5_freeHandNumber_26 : decode cX5_freeHandNumber 26 = .ok (.ireturn, 1) := by decide +kernel
theorem dX5_handSize_0 : decode cX5_handSize 0 = .ok (.iconst 0, 1) := by decide +kernel
theorem dX5_handSize_1 : decode cX5_handSize 1 = .ok (.istore_n 1, 1) := by decide +kernel
theorem dX5_handSize_2 : decode cX5_handSize 2 = .ok (.iconst 0, 1) := by decide +kernel
theorem dX5_handSize_3 : decode cX5_handSize 3 = .ok (.istore_n 2, 1) := by decide +kernel
theorem dX5_handSize_4 : decode cX5_handSize 4 = .ok (.iload_n 2, 1) := by decide +kernel
theorem dX5_handSize_5 : decode cX5_handSize 5 = .ok (.bipush 10, 2) := by decide +kernel
theorem dX5_handSize_7 : decode cX5_handSize 7 = .ok (.if_icmp .ge 21, 3) := by decide +kernel
theorem dX5_handSize_10 : decode cX5_handSize 10 = .ok (.aload_n 0, 1) := by decide +kernel
theorem dX5_handSize_11 : decode cX5_handSize 11 = .ok (.getfield 11, 3) := by decide +kernel
theorem dX5_handSize_14 : decode cX5_handSize 14 = .ok (.iload_n 2, 1) := by decide +kernel
theorem dX5_handSize_15 : decode cX5_handSize 15 = .ok (.aaload, 1) := by decide +kernel
theorem dX5_handSize_16 : decode cX5_handSize 16 = .ok (.ifnull 6, 3) := by decide +kernel
theorem dX5_handSize_19 : decode cX5_handSize 19 = .ok (.iinc 1 1, 3) := by decide +kernel
theorem dX5_handSize_22 : decode cX5_handSize 22 = .ok (.iinc 2 1, 3) := by decide +kernel
theorem dX5_handSize_25 : decode cX5_handSize 25 = .ok (.goto (-21), 3) := by decide +kernel
theorem dX5_handSize_28 : decode cX5_handSize 28 = .ok (.iload_n 1, 1) := by decide +kernel
theorem dX5_handSize_29 : decode cX5_handSize 29 = .ok (.ireturn, 1) := by decide +kernel
theorem dX5_get_0 : decode cX5_get 0 = .ok (.iconst 0, 1) := by decide +kernel
theorem dX5_get_1 : decode cX5_get 1 = .ok (.istore_n 2, 1) := by decide +kernel
theorem dX5_get_2 : decode cX5_get 2 = .ok (.iconst 0, 1) := by decide +kernel
theorem dX5_get_3 : decode cX5_get 3 = .ok (.istore_n 3, 1) := by decide +kernel
theorem dX5_get_4 : decode cX5_get 4 = .ok (.iload_n 3, 1) := by decide +kernel
theorem dX5_get_5 : decode cX5_get 5 = .ok (.bipush 10, 2) := by decide +kernel
theorem dX5_get_7 : decode cX5_get 7 = .ok (.if_icmp .ge 33, 3) := by decide +kernel
theorem dX5_get_10 : decode cX5_get 10 = .ok (.aload_n 0, 1) := by decide +kernel
theorem dX5_get_11 : decode cX5_get 11 = .ok (.getfield 11, 3) := by decide +kernel
theorem dX5_get_14 : decode cX5_get 14 = .ok (.iload_n 3, 1) := by decide +kernel
theorem dX5_get_15 : decode cX5_get 15 = .ok (.aaload, 1) := by decide +kernel
theorem dX5_get_16 : decode cX5_get 16 = .ok (.ifnull 18, 3) := by decide +kernel
theorem dX5_get_19 : decode cX5_get 19 = .ok (.iload_n 2, 1) := by decide +kernel
theorem dX5_get_20 : decode cX5_get 20 = .ok (.iload_n 1, 1) := by decide +kernel
theorem dX5_get_21 : decode cX5_get 21 = .ok (.if_icmp .ne 10, 3) := by decide +kernel
theorem dX5_get_24 : decode cX5_get 24 = .ok (.aload_n 0, 1) := by decide +kernel
theorem dX5_get_25 : decode cX5_get 25 = .ok (.getfield 11, 3) := by decide +kernel
theorem dX5_get_28 : decode cX5_get 28 = .ok (.iload_n 3, 1) := by decide +kernel
theorem dX5_get_29 : decode cX5_get 29 = .ok (.aaload, 1) := by decide +kernel
theorem dX5_get_30 : decode cX5_get 30 = .ok (.areturn, 1) := by decide +kernel
theorem dX5_get_31 : decode cX5_get 31 = .ok (.iinc 2 1, 3) := by decide +kernel
theorem dX5_get_34 : decode cX5_get 34 = .ok (.iinc 3 1, 3) := by decide +kernel
theorem dX5_get_37 : decode cX5_get 37 = .ok (.goto (-33), 3) := by decide +kernel
theorem dX5_get_40 : decode cX5_get 40 = .ok (.iload_n 1, 1) := by decide +kernel
theorem dX5_get_41 : decode cX5_get 41 = .ok (.iload_n 2, 1) := by decide +kernel
theorem dX5_get_42 : decode cX5_get 42 = .ok (.if_icmp .lt 24, 3) := by decide +kernel
theorem dX5_get_45 : decode cX5_get 45 = .ok (.iload_n 1, 1) := by decide +kernel
theorem dX5_get_46 : decode cX5_get 46 = .ok (.iload_n 2, 1) := by decide +kernel
theorem dX5_get_47 : decode cX5_get 47 = .ok (.isub, 1) := by decide +kernel
theorem dX5_get_48 : decode cX5_get 48 = .ok (.aload_n 0, 1) := by decide +kernel
theorem dX5_get_49 : decode cX5_get 49 = .ok (.getfield 20, 3) := by decide +kernel
theorem dX5_get_52 : decode cX5_get 52 = .ok (.if_icmp .ge 14, 3) := by decide +kernel
theorem dX5_get_55 : decode cX5_get 55 = .ok (.aload_n 0, 1) := by decide +kernel
theorem dX5_get_56 : decode cX5_get 56 = .ok (.getfield 17, 3) := by decide +kernel
theorem dX5_get_59 : decode cX5_get 59 = .ok (.iload_n 1, 1) := by decide +kernel
theorem dX5_get_60 : decode cX5_get 60 = .ok (.iload_n 2, 1) := by decide +kernel
theorem dX5_get_61 : decode cX5_get 61 = .ok (.isub, 1) := by decide +kernel
theorem dX5_get_62 : decode cX5_get 62 = .ok (.aaload, 1) := by decide +kernel
theorem dX5_get_63 : decode cX5_get 63 = .ok (.goto 4, 3) := by decide +kernel
theorem dX5_get_66 : decode cX5_get 66 = .ok (.aconst_null, 1) := by decide +kernel
theorem dX5_get_67 : decode cX5_get 67 = .ok (.areturn, 1) := by decide +kernel
theorem dX5_placeThatFits_0 : decode cX5_placeThatFits 0 = .ok (.iconst 0, 1) := by decide +kernel
theorem dX5_placeThatFits_1 : decode cX5_placeThatFits 1 = .ok (.istore_n 2, 1) := by decide +kernel
theorem dX5_placeThatFits_2 : decode cX5_placeThatFits 2 = .ok (.iconst 0, 1) := by decide +kernel
theorem dX5_placeThatFits_3 : decode cX5_placeThatFits 3 = .ok (.istore_n 3, 1) := by decide +kernel
theorem dX5_placeThatFits_4 : decode cX5_placeThatFits 4 = .ok (.iload_n 3, 1) := by decide +kernel
theorem dX5_placeThatFits_5 : decode cX5_placeThatFits 5 = .ok (.bipush 10, 2) := by decide +kernel
theorem dX5_placeThatFits_7 : decode cX5_placeThatFits 7 = .ok (.if_icmp .ge 36, 3) := by decide +kernel
theorem dX5_placeThatFits_10 : decode cX5_placeThatFits 10 = .ok (.aload_n 0, 1) := by decide +kernel
theorem dX5_placeThatFits_11 : decode cX5_placeThatFits 11 = .ok (.getfield 11, 3) := by decide +kernel
theorem dX5_placeThatFits_14 : decode cX5_placeThatFits 14 = .ok (.iload_n 3, 1) := by decide +kernel
theorem dX5_placeThatFits_15 : decode cX5_placeThatFits 15 = .ok (.aaload, 1) := by decide +kernel
theorem dX5_placeThatFits_16 : decode cX5_placeThatFits 16 = .ok (.ifnull 21, 3) := by decide +kernel
theorem dX5_placeThatFits_19 : decode cX5_placeThatFits 19 = .ok (.aload_n 0, 1) := by decide +kernel
theorem dX5_placeThatFits_20 : decode cX5_placeThatFits 20 = .ok (.getfield 11, 3) := by decide +kernel
theorem dX5_placeThatFits_23 : decode cX5_placeThatFits 23 = .ok (.iload_n 3, 1) := by decide +kernel
theorem dX5_placeThatFits_24 : decode cX5_placeThatFits 24 = .ok (.aaload, 1) := by decide +kernel
theorem dX5_placeThatFits_25 : decode cX5_placeThatFits 25 = .ok (.aload_n 1, 1) := by decide +kernel
theorem dX5_placeThatFits_26 : decode cX5_placeThatFits 26 = .ok (.invokevirtual 24, 3) := by decide +kernel
theorem dX5_placeThatFits_29 : decode cX5_placeThatFits 29 = .ok (.ifCond .eq 5, 3) := by decide +kernel
theorem dX5_placeThatFits_32 : decode cX5_placeThatFits 32 = .ok (.iload_n 2, 1) := by decide +kernel
theorem dX5_placeThatFits_33 : decode cX5_placeThatFits 33 = .ok (.ireturn, 1) := by decide +kernel
theorem dX5_placeThatFits_34 : decode cX5_placeThatFits 34 = .ok (.iinc 2 1, 3) := by decide +kernel
theorem dX5_placeThatFits_37 : decode cX5_placeThatFits 37 = .ok (.iinc 3 1, 3) := by decide +kernel
theorem dX5_placeThatFits_40 : decode cX5_placeThatFits 40 = .ok (.goto (-36), 3) := by decide +kernel
theorem dX5_placeThatFits_43 : decode cX5_placeThatFits 43 = .ok (.iconst 0, 1) := by decide +kernel
theorem dX5_placeThatFits_44 : decode cX5_placeThatFits 44 = .ok (.istore_n 3, 1) := by decide +kernel
theorem dX5_placeThatFits_45 : decode cX5_placeThatFits 45 = .ok (.iload_n 3, 1) := by decide +kernel
theorem dX5_placeThatFits_46 : decode cX5_placeThatFits 46 = .ok (.aload_n 0, 1) := by decide +kernel
theorem dX5_placeThatFits_47 : decode cX5_placeThatFits 47 = .ok (.getfield 20, 3) := by decide +kernel
theorem dX5_placeThatFits_50 : decode cX5_placeThatFits 50 = .ok (.if_icmp .ge 26, 3) := by decide +kernel
theorem dX5_placeThatFits_53 : decode cX5_placeThatFits 53 = .ok (.aload_n 0, 1) := by decide +kernel
theorem dX5_placeThatFits_54 : decode cX5_placeThatFits 54 = .ok (.getfield 17, 3) := by decide +kernel
theorem dX5_placeThatFits_57 : decode cX5_placeThatFits 57 = .ok (.iload_n 3, 1) := by decide +kernel
theorem dX5_placeThatFits_58 : decode cX5_placeThatFits 58 = .ok (.aaload, 1) := by decide +kernel
theorem dX5_placeThatFits_59 : decode cX5_placeThatFits 59 = .ok (.aload_n 1, 1) := by decide +kernel
theorem dX5_placeThatFits_60 : decode cX5_placeThatFits 60 = .ok (.invokevirtual 24, 3) := by decide +kernel
theorem dX5_placeThatFits_63 : decode cX5_placeThatFits 63 = .ok (.ifCond .eq 7, 3) := by decide +kernel
theorem dX5_placeThatFits_66 : decode cX5_placeThatFits 66 = .ok (.iload_n 2, 1) := by decide +kernel
theorem dX5_placeThatFits_67 : decode cX5_placeThatFits 67 = .ok (.iload_n 3, 1) := by decide +kernel
theorem dX5_placeThatFits_68 : decode cX5_placeThatFits 68 = .ok (.iadd, 1) := by decide +kernel
theorem dX5_placeThatFits_69 : decode cX5_placeThatFits 69 = .ok (.ireturn, 1) := by decide +kernel
theorem dX5_placeThatFits_70 : decode cX5_placeThatFits 70 = .ok (.iinc 3 1, 3) := by decide +kernel
theorem dX5_placeThatFits_73 : decode cX5_placeThatFits 73 = .ok (.goto (-28), 3) := by decide +kernel
theorem dX5_placeThatFits_76 : decode cX5_placeThatFits 76 = .ok (.iconst (-1), 1) := by decide +kernel
theorem dX5_placeThatFits_77 : decode cX5_placeThatFits 77 = .ok (.ireturn, 1) := by decide +kernel
theorem dX5_firstThatFits_0 : decode cX5_firstThatFits 0 = .ok (.aload_n 0, 1) := by decide +kernel
theorem dX5_firstThatFits_1 : decode cX5_firstThatFits 1 = .ok (.aload_n 0, 1) := by decide +kernel
theorem dX5_firstThatFits_2 : decode cX5_firstThatFits 2 = .ok (.aload_n 1, 1) := by decide +kernel
theorem dX5_firstThatFits_3 : decode cX5_firstThatFits 3 = .ok (.invokevirtual 28, 3) := by decide +kernel
theorem dX5_firstThatFits_6 : decode cX5_firstThatFits 6 = .ok (.invokevirtual 32, 3) := by decide +kernel
theorem dX5_firstThatFits_9 : decode cX5_firstThatFits 9 = .ok (.areturn, 1) := by decide +kernel
theorem dX5_anyHandFits_0 : decode cX5_anyHandFits 0 = .ok (.iconst 0, 1) := by decide +kernel
theorem dX5_anyHandFits_1 : decode cX5_anyHandFits 1 = .ok (.istore_n 2, 1) := by decide +kernel
theorem dX5_anyHandFits_2 : decode cX5_anyHandFits 2 = .ok (.iload_n 2, 1) := by decide +kernel
theorem dX5_anyHandFits_3 : decode cX5_anyHandFits 3 = .ok (.bipush 10, 2) := by decide +kernel
theorem dX5_anyHandFits_5 : decode cX5_anyHandFits 5 = .ok (.if_icmp .ge 33, 3) := by decide +kernel
theorem dX5_anyHandFits_8 : decode cX5_anyHandFits 8 = .ok (.aload_n 0, 1) := by decide +kernel
theorem dX5_anyHandFits_9 : decode cX5_anyHandFits 9 = .ok (.getfield 11, 3) := by decide +kernel
theorem dX5_anyHandFits_12 : decode cX5_anyHandFits 12 = .ok (.iload_n 2, 1) := by decide +kernel
theorem dX5_anyHandFits_13 : decode cX5_anyHandFits 13 = .ok (.aaload, 1) := by decide +kernel
theorem dX5_anyHandFits_14 : decode cX5_anyHandFits 14 = .ok (.ifnull 18, 3) := by decide +kernel
theorem dX5_anyHandFits_17 : decode cX5_anyHandFits 17 = .ok (.aload_n 0, 1) := by decide +kernel
theorem dX5_anyHandFits_18 : decode cX5_anyHandFits 18 = .ok (.getfield 11, 3) := by decide +kernel
theorem dX5_anyHandFits_21 : decode cX5_anyHandFits 21 = .ok (.iload_n 2, 1) := by decide +kernel
theorem dX5_anyHandFits_22 : decode cX5_anyHandFits 22 = .ok (.aaload, 1) := by decide +kernel
theorem dX5_anyHandFits_23 : decode cX5_anyHandFits 23 = .ok (.aload_n 1, 1) := by decide +kernel
theorem dX5_anyHandFits_24 : decode cX5_anyHandFits 24 = .ok (.invokevirtual 24, 3) := by decide +kernel
theorem dX5_anyHandFits_27 : decode cX5_anyHandFits 27 = .ok (.ifCond .eq 5, 3) := by decide +kernel
theorem dX5_anyHandFits_30 : decode cX5_anyHandFits 30 = .ok (.iconst 1, 1) := by decide +kernel
theorem dX5_anyHandFits_31 : decode cX5_anyHandFits 31 = .ok (.ireturn, 1) := by decide +kernel
theorem dX5_anyHandFits_32 : decode cX5_anyHandFits 32 = .ok (.iinc 2 1, 3) := by decide +kernel
theorem dX5_anyHandFits_35 : decode cX5_anyHandFits 35 = .ok (.goto (-33), 3) := by decide +kernel
theorem dX5_anyHandFits_38 : decode cX5_anyHandFits 38 = .ok (.iconst 0, 1) := by decide +kernel
theorem dX5_anyHandFits_39 : decode cX5_anyHandFits 39 = .ok (.ireturn, 1) := by decide +kernel
theorem dX5_addLearnt_0 : decode cX5_addLearnt 0 = .ok (.aload_n 0, 1) := by decide +kernel
theorem dX5_addLearnt_1 : decode cX5_addLearnt 1 = .ok (.getfield 20, 3) := by decide +kernel
theorem dX5_addLearnt_4 : decode cX5_addLearnt 4 = .ok (.bipush 6, 2) := by decide +kernel
theorem dX5_addLearnt_6 : decode cX5_addLearnt 6 = .ok (.if_icmp .ge 23, 3) := by decide +kernel
theorem dX5_addLearnt_9 : decode cX5_addLearnt 9 = .ok (.aload_n 0, 1) := by decide +kernel
theorem dX5_addLearnt_10 : decode cX5_addLearnt 10 = .ok (.getfield 17, 3) := by decide +kernel
theorem dX5_addLearnt_13 : decode cX5_addLearnt 13 = .ok (.aload_n 0, 1) := by decide +kernel
theorem dX5_addLearnt_14 : decode cX5_addLearnt 14 = .ok (.getfield 20, 3) := by decide +kernel
theorem dX5_addLearnt_17 : decode cX5_addLearnt 17 = .ok (.aload_n 1, 1) := by decide +kernel
theorem dX5_addLearnt_18 : decode cX5_addLearnt 18 = .ok (.aastore, 1) := by decide +kernel
theorem dX5_addLearnt_19 : decode cX5_addLearnt 19 = .ok (.aload_n 0, 1) := by decide +kernel
theorem dX5_addLearnt_20 : decode cX5_addLearnt 20 = .ok (.dup, 1) := by decide +kernel
theorem dX5_addLearnt_21 : decode cX5_addLearnt 21 = .ok (.getfield 20, 3) := by decide +kernel
theorem dX5_addLearnt_24 : decode cX5_addLearnt 24 = .ok (.iconst 1, 1) := by decide +kernel
theorem dX5_addLearnt_25 : decode cX5_addLearnt 25 = .ok (.iadd, 1) := by decide +kernel
theorem dX5_addLearnt_26 : decode cX5_addLearnt 26 = .ok (.putfield 20, 3) := by decide +kernel
theorem dX5_addLearnt_29 : decode cX5_addLearnt 29 = .ok (.return_, 1) := by decide +kernel
theorem dX6_init_0 : decode cX6_init 0 = .ok (.aload_n 0, 1) := by decide +kernel
theorem dX6_init_1 : decode cX6_init 1 = .ok (.invokespecial 3, 3) := by decide +kernel
theorem dX6_init_4 : decode cX6_init 4 = .ok (.aload_n 0, 1) := by decide +kernel
theorem dX6_init_5 : decode cX6_init 5 = .ok (.iload_n 1, 1) := by decide +kernel
theorem dX6_init_6 : decode cX6_init 6 = .ok (.putfield 9, 3) := by decide +kernel
theorem dX6_init_9 : decode cX6_init 9 = .ok (.aload_n 0, 1) := by decide +kernel
theorem dX6_init_10 : decode cX6_init 10 = .ok (.aload_n 2, 1) := by decide +kernel
theorem dX6_init_11 : decode cX6_init 11 = .ok (.putfield 15, 3) := by decide +kernel
theorem dX6_init_14 : decode cX6_init 14 = .ok (.aload_n 0, 1) := by decide +kernel
theorem dX6_init_15 : decode cX6_init 15 = .ok (.iload_n 3, 1) := by decide +kernel
theorem dX6_init_16 : decode cX6_init 16 = .ok (.putfield 19, 3) := by decide +kernel
theorem dX6_init_19 : decode cX6_init 19 = .ok (.return_, 1) := by decide +kernel
theorem dX6_fits_0 : decode cX6_fits 0 = .ok (.iconst 0, 1) := by decide +kernel
theorem dX6_fits_1 : decode cX6_fits 1 = .ok (.istore_n 2, 1) := by decide +kernel
theorem dX6_fits_2 : decode cX6_fits 2 = .ok (.iload_n 2, 1) := by decide +kernel
theorem dX6_fits_3 : decode cX6_fits 3 = .ok (.aload_n 0, 1) := by decide +kernel
theorem dX6_fits_4 : decode cX6_fits 4 = .ok (.getfield 15, 3) := by decide +kernel
theorem dX6_fits_7 : decode cX6_fits 7 = .ok (.arraylength, 1) := by decide +kernel
theorem dX6_fits_8 : decode cX6_fits 8 = .ok (.if_icmp .ge 24, 3) := by decide +kernel
theorem dX6_fits_11 : decode cX6_fits 11 = .ok (.aload_n 1, 1) := by decide +kernel
theorem dX6_fits_12 : decode cX6_fits 12 = .ok (.aload_n 0, 1) := by decide +kernel
theorem dX6_fits_13 : decode cX6_fits 13 = .ok (.getfield 15, 3) := by decide +kernel
theorem dX6_fits_16 : decode cX6_fits 16 = .ok (.iload_n 2, 1) := by decide +kernel
theorem dX6_fits_17 : decode cX6_fits 17 = .ok (.iaload, 1) := by decide +kernel
theorem dX6_fits_18 : decode cX6_fits 18 = .ok (.invokevirtual 22, 3) := by decide +kernel
theorem dX6_fits_21 : decode cX6_fits 21 = .ok (.ifCond .ne 5, 3) := by decide +kernel
theorem dX6_fits_24 : decode cX6_fits 24 = .ok (.iconst 0, 1) := by decide +kernel
theorem dX6_fits_25 : decode cX6_fits 25 = .ok (.ireturn, 1) := by decide +kernel
theorem dX6_fits_26 : decode cX6_fits 26 = .ok (.iinc 2 1, 3) := by decide +kernel
theorem dX6_fits_29 : decode cX6_fits 29 = .ok (.goto (-27), 3) := by decide +kernel
theorem dX6_fits_32 : decode cX6_fits 32 = .ok (.iconst 1, 1) := by decide +kernel
theorem dX6_fits_33 : decode cX6_fits 33 = .ok (.ireturn, 1) := by decide +kernel
theorem dX6_codeAt_0 : decode cX6_codeAt 0 = .ok (.iload_n 1, 1) := by decide +kernel
theorem dX6_codeAt_1 : decode cX6_codeAt 1 = .ok (.aload_n 0, 1) := by decide +kernel
theorem dX6_codeAt_2 : decode cX6_codeAt 2 = .ok (.getfield 15, 3) := by decide +kernel
theorem dX6_codeAt_5 : decode cX6_codeAt 5 = .ok (.arraylength, 1) := by decide +kernel
theorem dX6_codeAt_6 : decode cX6_codeAt 6 = .ok (.invokestatic 28, 3) := by decide +kernel
theorem dX6_codeAt_9 : decode cX6_codeAt 9 = .ok (.ifCond .eq 12, 3) := by decide +kernel
theorem dX6_codeAt_12 : decode cX6_codeAt 12 = .ok (.aload_n 0, 1) := by decide +kernel
theorem dX6_codeAt_13 : decode cX6_codeAt 13 = .ok (.getfield 15, 3) := by decide +kernel
theorem dX6_codeAt_16 : decode cX6_codeAt 16 = .ok (.iload_n 1, 1) := by decide +kernel
theorem dX6_codeAt_17 : decode cX6_codeAt 17 = .ok (.iaload, 1) := by decide +kernel
theorem dX6_codeAt_18 : decode cX6_codeAt 18 = .ok (.goto 4, 3) := by decide +kernel
theorem dX6_codeAt_21 : decode cX6_codeAt 21 = .ok (.iconst (-1), 1) := by decide +kernel
theorem dX6_codeAt_22 : decode cX6_codeAt 22 = .ok (.ireturn, 1) := by decide +kernel
theorem dX6_tells_0 : decode cX6_tells 0 = .ok (.aload_n 0, 1) := by decide +kernel
theorem dX6_tells_1 : decode cX6_tells 1 = .ok (.iconst 0, 1) := by decide +kernel
theorem dX6_tells_2 : decode cX6_tells 2 = .ok (.invokevirtual 32, 3) := by decide +kernel
theorem dX6_tells_5 : decode cX6_tells 5 = .ok (.iload_n 1, 1) := by decide +kernel
theorem dX6_tells_6 : decode cX6_tells 6 = .ok (.if_icmp .ne 24, 3) := by decide +kernel
theorem dX6_tells_9 : decode cX6_tells 9 = .ok (.aload_n 0, 1) := by decide +kernel
theorem dX6_tells_10 : decode cX6_tells 10 = .ok (.iconst 1, 1) := by decide +kernel
theorem dX6_tells_11 : decode cX6_tells 11 = .ok (.invokevirtual 32, 3) := by decide +kernel
theorem dX6_tells_14 : decode cX6_tells 14 = .ok (.iload_n 2, 1) := by decide +kernel
theorem dX6_tells_15 : decode cX6_tells 15 = .ok (.if_icmp .ne 15, 3) := by decide +kernel
theorem dX6_tells_18 : decode cX6_tells 18 = .ok (.aload_n 0, 1) := by decide +kernel
theorem dX6_tells_19 : decode cX6_tells 19 = .ok (.getfield 19, 3) := by decide +kernel
theorem dX6_tells_22 : decode cX6_tells 22 = .ok (.iload_n 3, 1) := by decide +kernel
theorem dX6_tells_23 : decode cX6_tells 23 = .ok (.if_icmp .ne 7, 3) := by decide +kernel
theorem dX6_tells_26 : decode cX6_tells 26 = .ok (.iconst 1, 1) := by decide +kernel
theorem dX6_tells_27 : decode cX6_tells 27 = .ok (.goto 4, 3) := by decide +kernel
theorem dX6_tells_30 : decode cX6_tells 30 = .ok (.iconst 0, 1) := by decide +kernel
theorem dX6_tells_31 : decode cX6_tells 31 = .ok (.ireturn, 1) := by decide +kernel
theorem dX7_init_0 : decode cX7_init 0 = .ok (.aload_n 0, 1) := by decide +kernel
theorem dX7_init_1 : decode cX7_init 1 = .ok (.invokespecial 3, 3) := by decide +kernel
theorem dX7_init_4 : decode cX7_init 4 = .ok (.aload_n 0, 1) := by decide +kernel
theorem dX7_init_5 : decode cX7_init 5 = .ok (.iconst 4, 1) := by decide +kernel
theorem dX7_init_6 : decode cX7_init 6 = .ok (.newarray .int, 2) := by decide +kernel
theorem dX7_init_8 : decode cX7_init 8 = .ok (.putfield 9, 3) := by decide +kernel
theorem dX7_init_11 : decode cX7_init 11 = .ok (.aload_n 0, 1) := by decide +kernel
theorem dX7_init_12 : decode cX7_init 12 = .ok (.aload_n 1, 1) := by decide +kernel
theorem dX7_init_13 : decode cX7_init 13 = .ok (.putfield 15, 3) := by decide +kernel
theorem dX7_init_16 : decode cX7_init 16 = .ok (.return_, 1) := by decide +kernel
theorem dX7_readTape_0 : decode cX7_readTape 0 = .ok (.aload_n 0, 1) := by decide +kernel
theorem dX7_readTape_1 : decode cX7_readTape 1 = .ok (.iconst 0, 1) := by decide +kernel
theorem dX7_readTape_2 : decode cX7_readTape 2 = .ok (.putfield 19, 3) := by decide +kernel
theorem dX7_readTape_5 : decode cX7_readTape 5 = .ok (.aload_n 0, 1) := by decide +kernel
theorem dX7_readTape_6 : decode cX7_readTape 6 = .ok (.iconst 0, 1) := by decide +kernel
theorem dX7_readTape_7 : decode cX7_readTape 7 = .ok (.putfield 23, 3) := by decide +kernel
theorem dX7_readTape_10 : decode cX7_readTape 10 = .ok (.aload_n 0, 1) := by decide +kernel
theorem dX7_readTape_11 : decode cX7_readTape 11 = .ok (.iconst 0, 1) := by decide +kernel
theorem dX7_readTape_12 : decode cX7_readTape 12 = .ok (.putfield 26, 3) := by decide +kernel
theorem dX7_readTape_15 : decode cX7_readTape 15 = .ok (.aload_n 0, 1) := by decide +kernel
theorem dX7_readTape_16 : decode cX7_readTape 16 = .ok (.invokevirtual 29, 3) := by decide +kernel
theorem dX7_readTape_19 : decode cX7_readTape 19 = .ok (.aload_n 0, 1) := by decide +kernel
theorem dX7_readTape_20 : decode cX7_readTape 20 = .ok (.ldc 32, 2) := by decide +kernel
theorem dX7_readTape_22 : decode cX7_readTape 22 = .ok (.invokevirtual 34, 3) := by decide +kernel
theorem dX7_readTape_25 : decode cX7_readTape 25 = .ok (.ifCond .eq 10, 3) := by decide +kernel
theorem dX7_readTape_28 : decode cX7_readTape 28 = .ok (.aload_n 0, 1) := by decide +kernel
theorem dX7_readTape_29 : decode cX7_readTape 29 = .ok (.invokevirtual 38, 3) := by decide +kernel
theorem dX7_readTape_32 : decode cX7_readTape 32 = .ok (.goto 24, 3) := by decide +kernel
theorem dX7_readTape_35 : decode cX7_readTape 35 = .ok (.aload_n 0, 1) := by decide +kernel
theorem dX7_readTape_36 : decode cX7_readTape 36 = .ok (.ldc 41, 2) := by decide +kernel
theorem dX7_readTape_38 : decode cX7_readTape 38 = .ok (.invokevirtual 34, 3) := by decide +kernel
theorem dX7_readTape_41 : decode cX7_readTape 41 = .ok (.ifCond .eq 10, 3) := by decide +kernel
theorem dX7_readTape_44 : decode cX7_readTape 44 = .ok (.aload_n 0, 1) := by decide +kernel
theorem dX7_readTape_45 : decode cX7_readTape 45 = .ok (.invokevirtual 29, 3) := by decide +kernel
theorem dX7_readTape_48 : decode cX7_readTape 48 = .ok (.goto 8, 3) := by decide +kernel
theorem dX7_readTape_51 : decode cX7_readTape 51 = .ok (.aload_n 0, 1) := by decide +kernel
theorem dX7_readTape_52 : decode cX7_readTape 52 = .ok (.iconst 0, 1) := by decide +kernel
theorem dX7_readTape_53 : decode cX7_readTape 53 = .ok (.invokevirtual 43, 3) := by decide +kernel
theorem dX7_readTape_56 : decode cX7_readTape 56 = .ok (.aload_n 0, 1) := by decide +kernel
theorem dX7_readTape_57 : decode cX7_readTape 57 = .ok (.ldc 47, 2) := by decide +kernel
theorem dX7_readTape_59 : decode cX7_readTape 59 = .ok (.invokevirtual 34, 3) := by decide +kernel
theorem dX7_readTape_62 : decode cX7_readTape 62 = .ok (.ifCond .ne 8, 3) := by decide +kernel
theorem dX7_readTape_65 : decode cX7_readTape 65 = .ok (.aload_n 0, 1) := by decide +kernel
theorem dX7_readTape_66 : decode cX7_readTape 66 = .ok (.iconst 0, 1) := by decide +kernel
theorem dX7_readTape_67 : decode cX7_readTape 67 = .ok (.invokevirtual 43, 3) := by decide +kernel
theorem dX7_readTape_70 : decode cX7_readTape 70 = .ok (.aload_n 0, 1) := by decide +kernel
theorem dX7_readTape_71 : decode cX7_readTape 71 = .ok (.aload_n 0, 1) := by decide +kernel
theorem dX7_readTape_72 : decode cX7_readTape 72 = .ok (.bipush 7, 2) := by decide +kernel
theorem dX7_readTape_74 : decode cX7_readTape 74 = .ok (.invokevirtual 49, 3) := by decide +kernel
theorem dX7_readTape_77 : decode cX7_readTape 77 = .ok (.putfield 53, 3) := by decide +kernel
theorem dX7_readTape_80 : decode cX7_readTape 80 = .ok (.aload_n 0, 1) := by decide +kernel
theorem dX7_readTape_81 : decode cX7_readTape 81 = .ok (.invokevirtual 56, 3) := by decide +kernel
theorem dX7_readTape_84 : decode cX7_readTape 84 = .ok (.aload_n 0, 1) := by decide +kernel
theorem dX7_readTape_85 : decode cX7_readTape 85 = .ok (.getfield 26, 3) := by decide +kernel
theorem dX7_readTape_88 : decode cX7_readTape 88 = .ok (.ireturn, 1) := by decide +kernel
theorem dX7_toRule_0 : decode cX7_toRule 0 = .ok (.aload_n 0, 1) := by decide +kernel
theorem dX7_toRule_1 : decode cX7_toRule 1 = .ok (.getfield 23, 3) := by decide +kernel
theorem dX7_toRule_4 : decode cX7_toRule 4 = .ok (.newarray .int, 2) := by decide +kernel
theorem dX7_toRule_6 : decode cX7_toRule 6 = .ok (.astore_n 2, 1) := by decide +kernel
theorem dX7_toRule_7 : decode cX7_toRule 7 = .ok (.aload_n 0, 1) := by decide +kernel
theorem dX7_toRule_8 : decode cX7_toRule 8 = .ok (.getfield 9, 3) := by decide +kernel
theorem dX7_toRule_11 : decode cX7_toRule 11 = .ok (.iconst 0, 1) := by decide +kernel
theorem dX7_toRule_12 : decode cX7_toRule 12 = .ok (.aload_n 2, 1) := by decide +kernel
theorem dX7_toRule_13 : decode cX7_toRule 13 = .ok (.iconst 0, 1) := by decide +kernel
theorem dX7_toRule_14 : decode cX7_toRule 14 = .ok (.aload_n 0, 1) := by decide +kernel
theorem dX7_toRule_15 : decode cX7_toRule 15 = .ok (.getfield 23, 3) := by decide +kernel
theorem dX7_toRule_18 : decode cX7_toRule 18 = .ok (.invokestatic 59, 3) := by decide +kernel
theorem dX7_toRule_21 : decode cX7_toRule 21 = .ok (.new 65, 3) := by decide +kernel
theorem dX7_toRule_24 : decode cX7_toRule 24 = .ok (.dup, 1) := by decide +kernel
theorem dX7_toRule_25 : decode cX7_toRule 25 = .ok (.iload_n 1, 1) := by decide +kernel
theorem dX7_toRule_26 : decode cX7_toRule 26 = .ok (.aload_n 2, 1) := by decide +kernel
theorem dX7_toRule_27 : decode cX7_toRule 27 = .ok (.aload_n 0, 1) := by decide +kernel
theorem dX7_toRule_28 : decode cX7_toRule 28 = .ok (.getfield 53, 3) := by decide +kernel
theorem dX7_toRule_31 : decode cX7_toRule 31 = .ok (.invokespecial 67, 3) := by decide +kernel
theorem dX7_toRule_34 : decode cX7_toRule 34 = .ok (.areturn, 1) := by decide +kernel
theorem dX7_readTests_0 : decode cX7_readTests 0 = .ok (.aload_n 0, 1) := by decide +kernel
theorem dX7_readTests_1 : decode cX7_readTests 1 = .ok (.invokevirtual 70, 3) := by decide +kernel
theorem dX7_readTests_4 : decode cX7_readTests 4 = .ok (.aload_n 0, 1) := by decide +kernel
theorem dX7_readTests_5 : decode cX7_readTests 5 = .ok (.invokevirtual 29, 3) := by decide +kernel
theorem dX7_readTests_8 : decode cX7_readTests 8 = .ok (.iconst 0, 1) := by decide +kernel
theorem dX7_readTests_9 : decode cX7_readTests 9 = .ok (.istore_n 1, 1) := by decide +kernel
theorem dX7_readTests_10 : decode cX7_readTests 10 = .ok (.iload_n 1, 1) := by decide +kernel
theorem dX7_readTests_11 : decode cX7_readTests 11 = .ok (.iconst 4, 1) := by decide +kernel
theorem dX7_readTests_12 : decode cX7_readTests 12 = .ok (.if_icmp .ge 26, 3) := by decide +kernel
theorem dX7_readTests_15 : decode cX7_readTests 15 = .ok (.aload_n 0, 1) := by decide +kernel
theorem dX7_readTests_16 : decode cX7_readTests 16 = .ok (.ldc 73, 2) := by decide +kernel
theorem dX7_readTests_18 : decode cX7_readTests 18 = .ok (.invokevirtual 34, 3) := by decide +kernel
theorem dX7_readTests_21 : decode cX7_readTests 21 = .ok (.ifCond .eq 17, 3) := by decide +kernel
theorem dX7_readTests_24 : decode cX7_readTests 24 = .ok (.aload_n 0, 1) := by decide +kernel
theorem dX7_readTests_25 : decode cX7_readTests 25 = .ok (.invokevirtual 70, 3) := by decide +kernel
theorem dX7_readTests_28 : decode cX7_readTests 28 = .ok (.aload_n 0, 1) := by decide +kernel
theorem dX7_readTests_29 : decode cX7_readTests 29 = .ok (.invokevirtual 29, 3) := by decide +kernel
theorem dX7_readTests_32 : decode cX7_readTests 32 = .ok (.iinc 1 1, 3) := by decide +kernel
theorem dX7_readTests_35 : decode cX7_readTests 35 = .ok (.goto (-25), 3) := by decide +kernel
theorem dX7_readTests_38 : decode cX7_readTests 38 = .ok (.return_, 1) := by decide +kernel
theorem dX7_readTest_0 : decode cX7_readTest 0 = .ok (.aload_n 0, 1) := by decide +kernel
theorem dX7_readTest_1 : decode cX7_readTest 1 = .ok (.invokevirtual 29, 3) := by decide +kernel
theorem dX7_readTest_4 : decode cX7_readTest 4 = .ok (.aload_n 0, 1) := by decide +kernel
theorem dX7_readTest_5 : decode cX7_readTest 5 = .ok (.invokevirtual 75, 3) := by decide +kernel
theorem dX7_readTest_8 : decode cX7_readTest 8 = .ok (.istore_n 1, 1) := by decide +kernel
theorem dX7_readTest_9 : decode cX7_readTest 9 = .ok (.iload_n 1, 1) := by decide +kernel
theorem dX7_readTest_10 : decode cX7_readTest 10 = .ok (.iconst (-1), 1) := by decide +kernel
theorem dX7_readTest_11 : decode cX7_readTest 11 = .ok (.if_icmp .ne 11, 3) := by decide +kernel
theorem dX7_readTest_14 : decode cX7_readTest 14 = .ok (.aload_n 0, 1) := by decide +kernel
theorem dX7_readTest_15 : decode cX7_readTest 15 = .ok (.iconst 0, 1) := by decide +kernel
theorem dX7_readTest_16 : decode cX7_readTest 16 = .ok (.invokevirtual 43, 3) := by decide +kernel
theorem dX7_readTest_19 : decode cX7_readTest 19 = .ok (.goto 48, 3) := by decide +kernel
theorem dX7_readTest_22 : decode cX7_readTest 22 = .ok (.aload_n 0, 1) := by decide +kernel
theorem dX7_readTest_23 : decode cX7_readTest 23 = .ok (.getfield 23, 3) := by decide +kernel
theorem dX7_readTest_26 : decode cX7_readTest 26 = .ok (.iconst 4, 1) := by decide +kernel
theorem dX7_readTest_27 : decode cX7_readTest 27 = .ok (.if_icmp .ne 11, 3) := by decide +kernel
theorem dX7_readTest_30 : decode cX7_readTest 30 = .ok (.aload_n 0, 1) := by decide +kernel
theorem dX7_readTest_31 : decode cX7_readTest 31 = .ok (.iconst 2, 1) := by decide +kernel
theorem dX7_readTest_32 : decode cX7_readTest 32 = .ok (.invokevirtual 43, 3) := by decide +kernel
theorem dX7_readTest_35 : decode cX7_readTest 35 = .ok (.goto 32, 3) := by decide +kernel
theorem dX7_readTest_38 : decode cX7_readTest 38 = .ok (.aload_n 0, 1) := by decide +kernel
theorem dX7_readTest_39 : decode cX7_readTest 39 = .ok (.getfield 9, 3) := by decide +kernel
theorem dX7_readTest_42 : decode cX7_readTest 42 = .ok (.aload_n 0, 1) := by decide +kernel
theorem dX7_readTest_43 : decode cX7_readTest 43 = .ok (.getfield 23, 3) := by decide +kernel
theorem dX7_readTest_46 : decode cX7_readTest 46 = .ok (.iload_n 1, 1) := by decide +kernel
theorem dX7_readTest_47 : decode cX7_readTest 47 = .ok (.aload_n 0, 1) := by decide +kernel
theorem dX7_readTest_48 : decode cX7_readTest 48 = .ok (.iload_n 1, 1) := by decide +kernel
theorem dX7_readTest_49 : decode cX7_readTest 49 = .ok (.invokestatic 79, 3) := by decide +kernel
theorem dX7_readTest_52 : decode cX7_readTest 52 = .ok (.invokevirtual 49, 3) := by decide +kernel
theorem dX7_readTest_55 : decode cX7_readTest 55 = .ok (.iadd, 1) := by decide +kernel
theorem dX7_readTest_56 : decode cX7_readTest 56 = .ok (.iastore, 1) := by decide +kernel
theorem dX7_readTest_57 : decode cX7_readTest 57 = .ok (.aload_n 0, 1) := by decide +kernel
theorem dX7_readTest_58 : decode cX7_readTest 58 = .ok (.dup, 1) := by decide +kernel
theorem dX7_readTest_59 : decode cX7_readTest 59 = .ok (.getfield 23, 3) := by decide +kernel
theorem dX7_readTest_62 : decode cX7_readTest 62 = .ok (.iconst 1, 1) := by decide +kernel
theorem dX7_readTest_63 : decode cX7_readTest 63 = .ok (.iadd, 1) := by decide +kernel
theorem dX7_readTest_64 : decode cX7_readTest 64 = .ok (.putfield 23, 3) := by decide +kernel
theorem dX7_readTest_67 : decode cX7_readTest 67 = .ok (.return_, 1) := by decide +kernel
theorem dX7_kindOfWord_0 : decode cX7_kindOfWord 0 = .ok (.aload_n 0, 1) := by decide +kernel
theorem dX7_kindOfWord_1 : decode cX7_kindOfWord 1 = .ok (.ldc 82, 2) := by decide +kernel
theorem dX7_kindOfWord_3 : decode cX7_kindOfWord 3 = .ok (.invokevirtual 34, 3) := by decide +kernel
theorem dX7_kindOfWord_6 : decode cX7_kindOfWord 6 = .ok (.ifCond .eq 5, 3) := by decide +kernel
theorem dX7_kindOfWord_9 : decode cX7_kindOfWord 9 = .ok (.iconst 0, 1) := by decide +kernel
theorem dX7_kindOfWord_10 : decode cX7_kindOfWord 10 = .ok (.ireturn, 1) := by decide +kernel
theorem dX7_kindOfWord_11 : decode cX7_kindOfWord 11 = .ok (.aload_n 0, 1) := by decide +kernel
theorem dX7_kindOfWord_12 : decode cX7_kindOfWord 12 = .ok (.ldc 84, 2) := by decide +kernel
theorem dX7_kindOfWord_14 : decode cX7_kindOfWord 14 = .ok (.invokevirtual 34, 3) := by decide +kernel
theorem dX7_kindOfWord_17 : decode cX7_kindOfWord 17 = .ok (.ifCond .eq 6, 3) := by decide +kernel
theorem dX7_kindOfWord_20 : decode cX7_kindOfWord 20 = .ok (.bipush 16, 2) := by decide +kernel
theorem dX7_kindOfWord_22 : decode cX7_kindOfWord 22 = .ok (.ireturn, 1) := by decide +kernel
theorem dX7_kindOfWord_23 : decode cX7_kindOfWord 23 = .ok (.aload_n 0, 1) := by decide +kernel
theorem dX7_kindOfWord_24 : decode cX7_kindOfWord 24 = .ok (.ldc 86, 2) := by decide +kernel
theorem dX7_kindOfWord_26 : decode cX7_kindOfWord 26 = .ok (.invokevirtual 34, 3) := by decide +kernel
theorem dX7_kindOfWord_29 : decode cX7_kindOfWord 29 = .ok (.ifCond .eq 6, 3) := by decide +kernel
theorem dX7_kindOfWord_32 : decode cX7_kindOfWord 32 = .ok (.bipush 24, 2) := by decide +kernel
theorem dX7_kindOfWord_34 : decode cX7_kindOfWord 34 = .ok (.ireturn, 1) := by decide +kernel
theorem dX7_kindOfWord_35 : decode cX7_kindOfWord 35 = .ok (.aload_n 0, 1) := by decide +kernel
theorem dX7_kindOfWord_36 : decode cX7_kindOfWord 36 = .ok (.ldc 88, 2) := by decide +kernel
theorem dX7_kindOfWord_38 : decode cX7_kindOfWord 38 = .ok (.invokevirtual 34, 3) := by decide +kernel
theorem dX7_kindOfWord_41 : decode cX7_kindOfWord 41 = .ok (.ifCond .eq 6, 3) := by decide +kernel
theorem dX7_kindOfWord_44 : decode cX7_kindOfWord 44 = .ok (.bipush 100, 2) := by decide +kernel
theorem dX7_kindOfWord_46 : decode cX7_kindOfWord 46 = .ok (.ireturn, 1) := by decide +kernel
theorem dX7_kindOfWord_47 : decode cX7_kindOfWord 47 = .ok (.aload_n 0, 1) := by decide +kernel
theorem dX7_kindOfWord_48 : decode cX7_kindOfWord 48 = .ok (.ldc 90, 2) := by decide +kernel
theorem dX7_kindOfWord_50 : decode cX7_kindOfWord 50 = .ok (.invokevirtual 34, 3) := by decide +kernel
theorem dX7_kindOfWord_53 : decode cX7_kindOfWord 53 = .ok (.ifCond .eq 9, 3) := by decide +kernel
theorem dX7_kindOfWord_56 : decode cX7_kindOfWord 56 = .ok (.sipush 1100, 3) := by decide +kernel
theorem dX7_kindOfWord_59 : decode cX7_kindOfWord 59 = .ok (.goto 4, 3) := by decide +kernel
theorem dX7_kindOfWord_62 : decode cX7_kindOfWord 62 = .ok (.iconst (-1), 1) := by decide +kernel
theorem dX7_kindOfWord_63 : decode cX7_kindOfWord 63 = .ok (.ireturn, 1) := by decide +kernel
theorem dX7_greatestOf_0 : decode cX7_greatestOf 0 = .ok (.iload_n 0, 1) := by decide +kernel
theorem dX7_greatestOf_1 : decode cX7_greatestOf 1 = .ok (.lookupswitch 44 #[(0, 35), (16, 38), (24, 41)], 35) := by decide +kernel
theorem dX7_greatestOf_36 : decode cX7_greatestOf 36 = .ok (.bipush 15, 2) := by decide +kernel
theorem dX7_greatestOf_38 : decode cX7_greatestOf 38 = .ok (.ireturn, 1) := by decide +kernel
theorem dX7_greatestOf_39 : decode cX7_greatestOf 39 = .ok (.bipush 7, 2) := by decide +kernel
theorem dX7_greatestOf_41 : decode cX7_greatestOf 41 = .ok (.ireturn, 1) := by decide +kernel
theorem dX7_greatestOf_42 : decode cX7_greatestOf 42 = .ok (.bipush 15, 2) := by decide +kernel
theorem dX7_greatestOf_44 : decode cX7_greatestOf 44 = .ok (.ireturn, 1) := by decide +kernel
theorem dX7_greatestOf_45 : decode cX7_greatestOf 45 = .ok (.sipush 999, 3) := by decide +kernel
theorem dX7_greatestOf_48 : decode cX7_greatestOf 48 = .ok (.ireturn, 1) := by decide +kernel
theorem dX7_readWord_0 : decode cX7_readWord 0 = .ok (.aload_n 0, 1) := by decide +kernel
theorem dX7_readWord_1 : decode cX7_readWord 1 = .ok (.invokevirtual 92, 3) := by decide +kernel
theorem dX7_readWord_4 : decode cX7_readWord 4 = .ok (.aload_n 0, 1) := by decide +kernel
theorem dX7_readWord_5 : decode cX7_readWord 5 = .ok (.aload_n 0, 1) := by decide +kernel
theorem dX7_readWord_6 : decode cX7_readWord 6 = .ok (.getfield 19, 3) := by decide +kernel
theorem dX7_readWord_9 : decode cX7_readWord 9 = .ok (.putfield 95, 3) := by decide +kernel
theorem dX7_readWord_12 : decode cX7_readWord 12 = .ok (.aload_n 0, 1) := by decide +kernel
theorem dX7_readWord_13 : decode cX7_readWord 13 = .ok (.getfield 19, 3) := by decide +kernel
theorem dX7_readWord_16 : decode cX7_readWord 16 = .ok (.aload_n 0, 1) := by decide +kernel
theorem dX7_readWord_17 : decode cX7_readWord 17 = .ok (.getfield 15, 3) := by decide +kernel
theorem dX7_readWord_20 : decode cX7_readWord 20 = .ok (.getfield 98, 3) := by decide +kernel
theorem dX7_readWord_23 : decode cX7_readWord 23 = .ok (.if_icmp .ge 50, 3) := by decide +kernel
theorem dX7_readWord_26 : decode cX7_readWord 26 = .ok (.aload_n 0, 1) := by decide +kernel
theorem dX7_readWord_27 : decode cX7_readWord 27 = .ok (.getfield 15, 3) := by decide +kernel
theorem dX7_readWord_30 : decode cX7_readWord 30 = .ok (.getfield 103, 3) := by decide +kernel
theorem dX7_readWord_33 : decode cX7_readWord 33 = .ok (.aload_n 0, 1) := by decide +kernel
theorem dX7_readWord_34 : decode cX7_readWord 34 = .ok (.getfield 19, 3) := by decide +kernel
theorem dX7_readWord_37 : decode cX7_readWord 37 = .ok (.iaload, 1) := by decide +kernel
theorem dX7_readWord_38 : decode cX7_readWord 38 = .ok (.bipush 97, 2) := by decide +kernel
theorem dX7_readWord_40 : decode cX7_readWord 40 = .ok (.if_icmp .lt 33, 3) := by decide +kernel
theorem dX7_readWord_43 : decode cX7_readWord 43 = .ok (.aload_n 0, 1) := by decide +kernel
theorem dX7_readWord_44 : decode cX7_readWord 44 = .ok (.getfield 15, 3) := by decide +kernel
theorem dX7_readWord_47 : decode cX7_readWord 47 = .ok (.getfield 103, 3) := by decide +kernel
theorem dX7_readWord_50 : decode cX7_readWord 50 = .ok (.aload_n 0, 1) := by decide +kernel
theorem dX7_readWord_51 : decode cX7_readWord 51 = .ok (.getfield 19, 3) := by decide +kernel
theorem dX7_readWord_54 : decode cX7_readWord 54 = .ok (.iaload, 1) := by decide +kernel
theorem dX7_readWord_55 : decode cX7_readWord 55 = .ok (.bipush 122, 2) := by decide +kernel
theorem dX7_readWord_57 : decode cX7_readWord 57 = .ok (.if_icmp .gt 16, 3) := by decide +kernel
theorem dX7_readWord_60 : decode cX7_readWord 60 = .ok (.aload_n 0, 1) := by decide +kernel
theorem dX7_readWord_61 : decode cX7_readWord 61 = .ok (.dup, 1) := by decide +kernel
theorem dX7_readWord_62 : decode cX7_readWord 62 = .ok (.getfield 19, 3) := by decide +kernel
theorem dX7_readWord_65 : decode cX7_readWord 65 = .ok (.iconst 1, 1) := by decide +kernel
theorem dX7_readWord_66 : decode cX7_readWord 66 = .ok (.iadd, 1) := by decide +kernel
theorem dX7_readWord_67 : decode cX7_readWord 67 = .ok (.putfield 19, 3) := by decide +kernel
theorem dX7_readWord_70 : decode cX7_readWord 70 = .ok (.goto (-58), 3) := by decide +kernel
theorem dX7_readWord_73 : decode cX7_readWord 73 = .ok (.return_, 1) := by decide +kernel
theorem dX7_wordIs_0 : decode cX7_wordIs 0 = .ok (.aload_n 0, 1) := by decide +kernel
theorem dX7_wordIs_1 : decode cX7_wordIs 1 = .ok (.getfield 19, 3) := by decide +kernel
theorem dX7_wordIs_4 : decode cX7_wordIs 4 = .ok (.aload_n 0, 1) := by decide +kernel
theorem dX7_wordIs_5 : decode cX7_wordIs 5 = .ok (.getfield 95, 3) := by decide +kernel
theorem dX7_wordIs_8 : decode cX7_wordIs 8 = .ok (.isub, 1) := by decide +kernel
theorem dX7_wordIs_9 : decode cX7_wordIs 9 = .ok (.aload_n 1, 1) := by decide +kernel
theorem dX7_wordIs_10 : decode cX7_wordIs 10 = .ok (.invokevirtual 106, 3) := by decide +kernel
theorem dX7_wordIs_13 : decode cX7_wordIs 13 = .ok (.if_icmp .eq 5, 3) := by decide +kernel
theorem dX7_wordIs_16 : decode cX7_wordIs 16 = .ok (.iconst 0, 1) := by decide +kernel
theorem dX7_wordIs_17 : decode cX7_wordIs 17 = .ok (.ireturn, 1) := by decide +kernel
theorem dX7_wordIs_18 : decode cX7_wordIs 18 = .ok (.iconst 0, 1) := by decide +kernel
theorem dX7_wordIs_19 : decode cX7_wordIs 19 = .ok (.istore_n 2, 1) := by decide +kernel
theorem dX7_wordIs_20 : decode cX7_wordIs 20 = .ok (.iload_n 2, 1) := by decide +kernel
theorem dX7_wordIs_21 : decode cX7_wordIs 21 = .ok (.aload_n 1, 1) := by decide +kernel
theorem dX7_wordIs_22 : decode cX7_wordIs 22 = .ok (.invokevirtual 106, 3) := by decide +kernel
theorem dX7_wordIs_25 : decode cX7_wordIs 25 = .ok (.if_icmp .ge 33, 3) := by decide +kernel
theorem dX7_wordIs_28 : decode cX7_wordIs 28 = .ok (.aload_n 0, 1) := by decide +kernel
theorem dX7_wordIs_29 : decode cX7_wordIs 29 = .ok (.getfield 15, 3) := by decide +kernel
theorem dX7_wordIs_32 : decode cX7_wordIs 32 = .ok (.getfield 103, 3) := by decide +kernel
theorem dX7_wordIs_35 : decode cX7_wordIs 35 = .ok (.aload_n 0, 1) := by decide +kernel
theorem dX7_wordIs_36 : decode cX7_wordIs 36 = .ok (.getfield 95, 3) := by decide +kernel
theorem dX7_wordIs_39 : decode cX7_wordIs 39 = .ok (.iload_n 2, 1) := by decide +kernel
theorem dX7_wordIs_40 : decode cX7_wordIs 40 = .ok (.iadd, 1) := by decide +kernel
theorem dX7_wordIs_41 : decode cX7_wordIs 41 = .ok (.iaload, 1) := by decide +kernel
theorem dX7_wordIs_42 : decode cX7_wordIs 42 = .ok (.aload_n 1, 1) := by decide +kernel
theorem dX7_wordIs_43 : decode cX7_wordIs 43 = .ok (.iload_n 2, 1) := by decide +kernel
theorem dX7_wordIs_44 : decode cX7_wordIs 44 = .ok (.invokevirtual 110, 3) := by decide +kernel
theorem dX7_wordIs_47 : decode cX7_wordIs 47 = .ok (.if_icmp .eq 5, 3) := by decide +kernel
theorem dX7_wordIs_50 : decode cX7_wordIs 50 = .ok (.iconst 0, 1) := by decide +kernel
theorem dX7_wordIs_51 : decode cX7_wordIs 51 = .ok (.ireturn, 1) := by decide +kernel
theorem dX7_wordIs_52 : decode cX7_wordIs 52 = .ok (.iinc 2 1, 3) := by decide +kernel
theorem dX7_wordIs_55 : decode cX7_wordIs 55 = .ok (.goto (-35), 3) := by decide +kernel
theorem dX7_wordIs_58 : decode cX7_wordIs 58 = .ok (.iconst 1, 1) := by decide +kernel
theorem dX7_wordIs_59 : decode cX7_wordIs 59 = .ok (.ireturn, 1) := by decide +kernel
theorem dX7_readNumber_0 : decode cX7_readNumber 0 = .ok (.aload_n 0, 1) := by decide +kernel
theorem dX7_readNumber_1 : decode cX7_readNumber 1 = .ok (.invokevirtual 92, 3) := by decide +kernel
theorem dX7_readNumber_4 : decode cX7_readNumber 4 = .ok (.aload_n 0, 1) := by decide +kernel
theorem dX7_readNumber_5 : decode cX7_readNumber 5 = .ok (.aload_n 0, 1) := by decide +kernel
theorem dX7_readNumber_6 : decode cX7_readNumber 6 = .ok (.getfield 19, 3) := by decide +kernel
theorem dX7_readNumber_9 : decode cX7_readNumber 9 = .ok (.putfield 95, 3) := by decide +kernel
theorem dX7_readNumber_12 : decode cX7_readNumber 12 = .ok (.iconst 0, 1) := by decide +kernel
theorem dX7_readNumber_13 : decode cX7_readNumber 13 = .ok (.istore_n 2, 1) := by decide +kernel
theorem dX7_readNumber_14 : decode cX7_readNumber 14 = .ok (.aload_n 0, 1) := by decide +kernel
theorem dX7_readNumber_15 : decode cX7_readNumber 15 = .ok (.getfield 19, 3) := by decide +kernel
theorem dX7_readNumber_18 : decode cX7_readNumber 18 = .ok (.aload_n 0, 1) := by decide +kernel
theorem dX7_readNumber_19 : decode cX7_readNumber 19 = .ok (.getfield 15, 3) := by decide +kernel
theorem dX7_readNumber_22 : decode cX7_readNumber 22 = .ok (.getfield 98, 3) := by decide +kernel
theorem dX7_readNumber_25 : decode cX7_readNumber 25 = .ok (.if_icmp .ge 77, 3) := by decide +kernel
theorem dX7_readNumber_28 : decode cX7_readNumber 28 = .ok (.aload_n 0, 1) := by decide +kernel
theorem dX7_readNumber_29 : decode cX7_readNumber 29 = .ok (.getfield 15, 3) := by decide +kernel
theorem dX7_readNumber_32 : decode cX7_readNumber 32 = .ok (.getfield 103, 3) := by decide +kernel
theorem dX7_readNumber_35 : decode cX7_readNumber 35 = .ok (.aload_n 0, 1) := by decide +kernel
theorem dX7_readNumber_36 : decode cX7_readNumber 36 = .ok (.getfield 19, 3) := by decide +kernel
theorem dX7_readNumber_39 : decode cX7_readNumber 39 = .ok (.iaload, 1) := by decide +kernel
theorem dX7_readNumber_40 : decode cX7_readNumber 40 = .ok (.bipush 48, 2) := by decide +kernel
theorem dX7_readNumber_42 : decode cX7_readNumber 42 = .ok (.if_icmp .lt 60, 3) := by decide +kernel
theorem dX7_readNumber_45 : decode cX7_readNumber 45 = .ok (.aload_n 0, 1) := by decide +kernel
theorem dX7_readNumber_46 : decode cX7_readNumber 46 = .ok (.getfield 15, 3) := by decide +kernel
theorem dX7_readNumber_49 : decode cX7_readNumber 49 = .ok (.getfield 103, 3) := by decide +kernel
theorem dX7_readNumber_52 : decode cX7_readNumber 52 = .ok (.aload_n 0, 1) := by decide +kernel
theorem dX7_readNumber_53 : decode cX7_readNumber 53 = .ok (.getfield 19, 3) := by decide +kernel
theorem dX7_readNumber_56 : decode cX7_readNumber 56 = .ok (.iaload, 1) := by decide +kernel
theorem dX7_readNumber_57 : decode cX7_readNumber 57 = .ok (.bipush 57, 2) := by decide +kernel
theorem dX7_readNumber_59 : decode cX7_readNumber 59 = .ok (.if_icmp .gt 43, 3) := by decide +kernel
theorem dX7_readNumber_62 : decode cX7_readNumber 62 = .ok (.sipush 1000, 3) := by decide +kernel
theorem dX7_readNumber_65 : decode cX7_readNumber 65 = .ok (.iload_n 2, 1) := by decide +kernel
theorem dX7_readNumber_66 : decode cX7_readNumber 66 = .ok (.bipush 10, 2) := by decide +kernel
theorem dX7_readNumber_68 : decode cX7_readNumber 68 = .ok (.imul, 1) := by decide +kernel
theorem dX7_readNumber_69 : decode cX7_readNumber 69 = .ok (.aload_n 0, 1) := by decide +kernel
theorem dX7_readNumber_70 : decode cX7_readNumber 70 = .ok (.getfield 15, 3) := by decide +kernel
theorem dX7_readNumber_73 : decode cX7_readNumber 73 = .ok (.getfield 103, 3) := by decide +kernel
theorem dX7_readNumber_76 : decode cX7_readNumber 76 = .ok (.aload_n 0, 1) := by decide +kernel
theorem dX7_readNumber_77 : decode cX7_readNumber 77 = .ok (.getfield 19, 3) := by decide +kernel
theorem dX7_readNumber_80 : decode cX7_readNumber 80 = .ok (.iaload, 1) := by decide +kernel
theorem dX7_readNumber_81 : decode cX7_readNumber 81 = .ok (.iadd, 1) := by decide +kernel
theorem dX7_readNumber_82 : decode cX7_readNumber 82 = .ok (.bipush 48, 2) := by decide +kernel
theorem dX7_readNumber_84 : decode cX7_readNumber 84 = .ok (.isub, 1) := by decide +kernel
theorem dX7_readNumber_85 : decode cX7_readNumber 85 = .ok (.invokestatic 114, 3) := by decide +kernel
theorem dX7_readNumber_88 : decode cX7_readNumber 88 = .ok (.istore_n 2, 1) := by decide +kernel
theorem dX7_readNumber_89 : decode cX7_readNumber 89 = .ok (.aload_n 0, 1) := by decide +kernel
theorem dX7_readNumber_90 : decode cX7_readNumber 90 = .ok (.dup, 1) := by decide +kernel
theorem dX7_readNumber_91 : decode cX7_readNumber 91 = .ok (.getfield 19, 3) := by decide +kernel
theorem dX7_readNumber_94 : decode cX7_readNumber 94 = .ok (.iconst 1, 1) := by decide +kernel
theorem dX7_readNumber_95 : decode cX7_readNumber 95 = .ok (.iadd, 1) := by decide +kernel
theorem dX7_readNumber_96 : decode cX7_readNumber 96 = .ok (.putfield 19, 3) := by decide +kernel
theorem dX7_readNumber_99 : decode cX7_readNumber 99 = .ok (.goto (-85), 3) := by decide +kernel
theorem dX7_readNumber_102 : decode cX7_readNumber 102 = .ok (.aload_n 0, 1) := by decide +kernel
theorem dX7_readNumber_103 : decode cX7_readNumber 103 = .ok (.getfield 19, 3) := by decide +kernel
theorem dX7_readNumber_106 : decode cX7_readNumber 106 = .ok (.aload_n 0, 1) := by decide +kernel
theorem dX7_readNumber_107 : decode cX7_readNumber 107 = .ok (.getfield 95, 3) := by decide +kernel
theorem dX7_readNumber_110 : decode cX7_readNumber 110 = .ok (.if_icmp .ne 11, 3) := by decide +kernel
theorem dX7_readNumber_113 : decode cX7_readNumber 113 = .ok (.aload_n 0, 1) := by decide +kernel
theorem dX7_readNumber_114 : decode cX7_readNumber 114 = .ok (.iconst 0, 1) := by decide +kernel
theorem dX7_readNumber_115 : decode cX7_readNumber 115 = .ok (.invokevirtual 43, 3) := by decide +kernel
theorem dX7_readNumber_118 : decode cX7_readNumber 118 = .ok (.goto 26, 3) := by decide +kernel
theorem dX7_readNumber_121 : decode cX7_readNumber 121 = .ok (.aload_n 0, 1) := by decide +kernel
theorem dX7_readNumber_122 : decode cX7_readNumber 122 = .ok (.getfield 19, 3) := by decide +kernel
theorem dX7_readNumber_125 : decode cX7_readNumber 125 = .ok (.aload_n 0, 1) := by decide +kernel
theorem dX7_readNumber_126 : decode cX7_readNumber 126 = .ok (.getfield 95, 3) := by decide +kernel
theorem dX7_readNumber_129 : decode cX7_readNumber 129 = .ok (.isub, 1) := by decide +kernel
theorem dX7_readNumber_130 : decode cX7_readNumber 130 = .ok (.iconst 3, 1) := by decide +kernel
theorem dX7_readNumber_131 : decode cX7_readNumber 131 = .ok (.if_icmp .gt 8, 3) := by decide +kernel
theorem dX7_readNumber_134 : decode cX7_readNumber 134 = .ok (.iload_n 2, 1) := by decide +kernel
theorem dX7_readNumber_135 : decode cX7_readNumber 135 = .ok (.iload_n 1, 1) := by decide +kernel
theorem dX7_readNumber_136 : decode cX7_readNumber 136 = .ok (.if_icmp .le 8, 3) := by decide +kernel
theorem dX7_readNumber_139 : decode cX7_readNumber 139 = .ok (.aload_n 0, 1) := by decide +kernel
theorem dX7_readNumber_140 : decode cX7_readNumber 140 = .ok (.iconst 1, 1) := by decide +kernel
theorem dX7_readNumber_141 : decode cX7_readNumber 141 = .ok (.invokevirtual 43, 3) := by decide +kernel
theorem dX7_readNumber_144 : decode cX7_readNumber 144 = .ok (.iload_n 2, 1) := by decide +kernel
theorem dX7_readNumber_145 : decode cX7_readNumber 145 = .ok (.ireturn, 1) := by decide +kernel
theorem dX7_readEnd_0 : decode cX7_readEnd 0 = .ok (.aload_n 0, 1) := by decide +kernel
theorem dX7_readEnd_1 : decode cX7_readEnd 1 = .ok (.invokevirtual 92, 3) := by decide +kernel
theorem dX7_readEnd_4 : decode cX7_readEnd 4 = .ok (.aload_n 0, 1) := by decide +kernel
theorem dX7_readEnd_5 : decode cX7_readEnd 5 = .ok (.aload_n 0, 1) := by decide +kernel
theorem dX7_readEnd_6 : decode cX7_readEnd 6 = .ok (.getfield 19, 3) := by decide +kernel
theorem dX7_readEnd_9 : decode cX7_readEnd 9 = .ok (.putfield 95, 3) := by decide +kernel
theorem dX7_readEnd_12 : decode cX7_readEnd 12 = .ok (.aload_n 0, 1) := by decide +kernel
theorem dX7_readEnd_13 : decode cX7_readEnd 13 = .ok (.getfield 19, 3) := by decide +kernel
theorem dX7_readEnd_16 : decode cX7_readEnd 16 = .ok (.aload_n 0, 1) := by decide +kernel
theorem dX7_readEnd_17 : decode cX7_readEnd 17 = .ok (.getfield 15, 3) := by decide +kernel
theorem dX7_readEnd_20 : decode cX7_readEnd 20 = .ok (.getfield 98, 3) := by decide +kernel
theorem dX7_readEnd_23 : decode cX7_readEnd 23 = .ok (.if_icmp .ge 8, 3) := by decide +kernel
theorem dX7_readEnd_26 : decode cX7_readEnd 26 = .ok (.aload_n 0, 1) := by decide +kernel
theorem dX7_readEnd_27 : decode cX7_readEnd 27 = .ok (.iconst 3, 1) := by decide +kernel
theorem dX7_readEnd_28 : decode cX7_readEnd 28 = .ok (.invokevirtual 43, 3) := by decide +kernel
theorem dX7_readEnd_31 : decode cX7_readEnd 31 = .ok (.return_, 1) := by decide +kernel
theorem dX7_skipBlanks_0 : decode cX7_skipBlanks 0 = .ok (.aload_n 0, 1) := by decide +kernel
theorem dX7_skipBlanks_1 : decode cX7_skipBlanks 1 = .ok (.getfield 19, 3) := by decide +kernel
theorem dX7_skipBlanks_4 : decode cX7_skipBlanks 4 = .ok (.aload_n 0, 1) := by decide +kernel
theorem dX7_skipBlanks_5 : decode cX7_skipBlanks 5 = .ok (.getfield 15, 3) := by decide +kernel
theorem dX7_skipBlanks_8 : decode cX7_skipBlanks 8 = .ok (.getfield 98, 3) := by decide +kernel
theorem dX7_skipBlanks_11 : decode cX7_skipBlanks 11 = .ok (.if_icmp .ge 33, 3) := by decide +kernel
theorem dX7_skipBlanks_14 : decode cX7_skipBlanks 14 = .ok (.aload_n 0, 1) := by decide +kernel
theorem dX7_skipBlanks_15 : decode cX7_skipBlanks 15 = .ok (.getfield 15, 3) := by decide +kernel
theorem dX7_skipBlanks_18 : decode cX7_skipBlanks 18 = .ok (.getfield 103, 3) := by decide +kernel
theorem dX7_skipBlanks_21 : decode cX7_skipBlanks 21 = .ok (.aload_n 0, 1) := by decide +kernel
theorem dX7_skipBlanks_22 : decode cX7_skipBlanks 22 = .ok (.getfield 19, 3) := by decide +kernel
theorem dX7_skipBlanks_25 : decode cX7_skipBlanks 25 = .ok (.iaload, 1) := by decide +kernel
theorem dX7_skipBlanks_26 : decode cX7_skipBlanks 26 = .ok (.bipush 32, 2) := by decide +kernel
theorem dX7_skipBlanks_28 : decode cX7_skipBlanks 28 = .ok (.if_icmp .ne 16, 3) := by decide +kernel
theorem dX7_skipBlanks_31 : decode cX7_skipBlanks 31 = .ok (.aload_n 0, 1) := by decide +kernel
theorem dX7_skipBlanks_32 : decode cX7_skipBlanks 32 = .ok (.dup, 1) := by decide +kernel
theorem dX7_skipBlanks_33 : decode cX7_skipBlanks 33 = .ok (.getfield 19, 3) := by decide +kernel
theorem dX7_skipBlanks_36 : decode cX7_skipBlanks 36 = .ok (.iconst 1, 1) := by decide +kernel
theorem dX7_skipBlanks_37 : decode cX7_skipBlanks 37 = .ok (.iadd, 1) := by decide +kernel
theorem dX7_skipBlanks_38 : decode cX7_skipBlanks 38 = .ok (.putfield 19, 3) := by decide +kernel
theorem dX7_skipBlanks_41 : decode cX7_skipBlanks 41 = .ok (.goto (-41), 3) := by decide +kernel
theorem dX7_skipBlanks_44 : decode cX7_skipBlanks 44 = .ok (.return_, 1) := by decide +kernel
theorem dX7_blame_0 : decode cX7_blame 0 = .ok (.aload_n 0, 1) := by decide +kernel
theorem dX7_blame_1 : decode cX7_blame 1 = .ok (.getfield 26, 3) := by decide +kernel
theorem dX7_blame_4 : decode cX7_blame 4 = .ok (.ifCond .ne 18, 3) := by decide +kernel
theorem dX7_blame_7 : decode cX7_blame 7 = .ok (.aload_n 0, 1) := by decide +kernel
theorem dX7_blame_8 : decode cX7_blame 8 = .ok (.iconst 1, 1) := by decide +kernel
theorem dX7_blame_9 : decode cX7_blame 9 = .ok (.bipush 8, 2) := by decide +kernel
theorem dX7_blame_11 : decode cX7_blame 11 = .ok (.aload_n 0, 1) := by decide +kernel
theorem dX7_blame_12 : decode cX7_blame 12 = .ok (.getfield 95, 3) := by decide +kernel
theorem dX7_blame_15 : decode cX7_blame 15 = .ok (.imul, 1) := by decide +kernel
theorem dX7_blame_16 : decode cX7_blame 16 = .ok (.iadd, 1) := by decide +kernel
theorem dX7_blame_17 : decode cX7_blame 17 = .ok (.iload_n 1, 1) := by decide +kernel
theorem dX7_blame_18 : decode cX7_blame 18 = .ok (.iadd, 1) := by decide +kernel
theorem dX7_blame_19 : decode cX7_blame 19 = .ok (.putfield 26, 3) := by decide +kernel
theorem dX7_blame_22 : decode cX7_blame 22 = .ok (.return_, 1) := by decide +kernel
theorem dX8_init_0 : decode cX8_init 0 = .ok (.aload_n 0, 1) := by decide +kernel
theorem dX8_init_1 : decode cX8_init 1 = .ok (.invokespecial 3, 3) := by decide +kernel
theorem dX8_init_4 : decode cX8_init 4 = .ok (.aload_n 0, 1) := by decide +kernel
theorem dX8_init_5 : decode cX8_init 5 = .ok (.bipush 100, 2) := by decide +kernel
theorem dX8_init_7 : decode cX8_init 7 = .ok (.newarray .int, 2) := by decide +kernel
theorem dX8_init_9 : decode cX8_init 9 = .ok (.putfield 9, 3) := by decide +kernel
theorem dX8_init_12 : decode cX8_init 12 = .ok (.return_, 1) := by decide +kernel
theorem dX8_append_0 : decode cX8_append 0 = .ok (.aload_n 0, 1) := by decide +kernel
theorem dX8_append_1 : decode cX8_append 1 = .ok (.getfield 15, 3) := by decide +kernel
theorem dX8_append_4 : decode cX8_append 4 = .ok (.bipush 96, 2) := by decide +kernel
theorem dX8_append_6 : decode cX8_append 6 = .ok (.if_icmp .le 4, 3) := by decide +kernel
theorem dX8_append_9 : decode cX8_append 9 = .ok (.return_, 1) := by decide +kernel
theorem dX8_append_10 : decode cX8_append 10 = .ok (.bipush 24, 2) := by decide +kernel
theorem dX8_append_12 : decode cX8_append 12 = .ok (.istore_n 2, 1) := by decide +kernel
theorem dX8_append_13 : decode cX8_append 13 = .ok (.iload_n 2, 1) := by decide +kernel
theorem dX8_append_14 : decode cX8_append 14 = .ok (.ifCond .lt 35, 3) := by decide +kernel
theorem dX8_append_17 : decode cX8_append 17 = .ok (.aload_n 0, 1) := by decide +kernel
theorem dX8_append_18 : decode cX8_append 18 = .ok (.getfield 9, 3) := by decide +kernel
theorem dX8_append_21 : decode cX8_append 21 = .ok (.aload_n 0, 1) := by decide +kernel
theorem dX8_append_22 : decode cX8_append 22 = .ok (.getfield 15, 3) := by decide +kernel
theorem dX8_append_25 : decode cX8_append 25 = .ok (.iload_n 1, 1) := by decide +kernel
theorem dX8_append_26 : decode cX8_append 26 = .ok (.iload_n 2, 1) := by decide +kernel
theorem dX8_append_27 : decode cX8_append 27 = .ok (.iushr, 1) := by decide +kernel
theorem dX8_append_28 : decode cX8_append 28 = .ok (.sipush 255, 3) := by decide +kernel
theorem dX8_append_31 : decode cX8_append 31 = .ok (.iand, 1) := by decide +kernel
theorem dX8_append_32 : decode cX8_append 32 = .ok (.iastore, 1) := by decide +kernel
theorem dX8_append_33 : decode cX8_append 33 = .ok (.aload_n 0, 1) := by decide +kernel
theorem dX8_append_34 : decode cX8_append 34 = .ok (.dup, 1) := by decide +kernel
theorem dX8_append_35 : decode cX8_append 35 = .ok (.getfield 15, 3) := by decide +kernel
theorem dX8_append_38 : decode cX8_append 38 = .ok (.iconst 1, 1) := by decide +kernel
theorem dX8_append_39 : decode cX8_append 39 = .ok (.iadd, 1) := by decide +kernel
theorem dX8_append_40 : decode cX8_append 40 = .ok (.putfield 15, 3) := by decide +kernel
theorem dX8_append_43 : decode cX8_append 43 = .ok (.iinc 2 (-8), 3) := by decide +kernel
theorem dX8_append_46 : decode cX8_append 46 = .ok (.goto (-33), 3) := by decide +kernel
theorem dX8_append_49 : decode cX8_append 49 = .ok (.return_, 1) := by decide +kernel
theorem dX9_init_0 : decode cX9_init 0 = .ok (.aload_n 0, 1) := by decide +kernel
theorem dX9_init_1 : decode cX9_init 1 = .ok (.invokespecial 1, 3) := by decide +kernel
theorem dX9_init_4 : decode cX9_init 4 = .ok (.aload_n 0, 1) := by decide +kernel
theorem dX9_init_5 : decode cX9_init 5 = .ok (.new 7, 3) := by decide +kernel
theorem dX9_init_8 : decode cX9_init 8 = .ok (.dup, 1) := by decide +kernel
theorem dX9_init_9 : decode cX9_init 9 = .ok (.invokespecial 9, 3) := by decide +kernel
theorem dX9_init_12 : decode cX9_init 12 = .ok (.putfield 10, 3) := by decide +kernel
theorem dX9_init_15 : decode cX9_init 15 = .ok (.aload_n 0, 1) := by decide +kernel
theorem dX9_init_16 : decode cX9_init 16 = .ok (.new 16, 3) := by decide +kernel
theorem dX9_init_19 : decode cX9_init 19 = .ok (.dup, 1) := by decide +kernel
theorem dX9_init_20 : decode cX9_init 20 = .ok (.aload_n 0, 1) := by decide +kernel
theorem dX9_init_21 : decode cX9_init 21 = .ok (.getfield 10, 3) := by decide +kernel
theorem dX9_init_24 : decode cX9_init 24 = .ok (.invokespecial 18, 3) := by decide +kernel
theorem dX9_init_27 : decode cX9_init 27 = .ok (.putfield 21, 3) := by decide +kernel
theorem dX9_init_30 : decode cX9_init 30 = .ok (.aload_n 0, 1) := by decide +kernel
theorem dX9_init_31 : decode cX9_init 31 = .ok (.new 25, 3) := by decide +kernel
theorem dX9_init_34 : decode cX9_init 34 = .ok (.dup, 1) := by decide +kernel
theorem dX9_init_35 : decode cX9_init 35 = .ok (.invokespecial 27, 3) := by decide +kernel
theorem dX9_init_38 : decode cX9_init 38 = .ok (.putfield 28, 3) := by decide +kernel
theorem dX9_init_41 : decode cX9_init 41 = .ok (.aload_n 0, 1) := by decide +kernel
theorem dX9_init_42 : decode cX9_init 42 = .ok (.new 32, 3) := by decide +kernel
theorem dX9_init_45 : decode cX9_init 45 = .ok (.dup, 1) := by decide +kernel
theorem dX9_init_46 : decode cX9_init 46 = .ok (.invokespecial 34, 3) := by decide +kernel
theorem dX9_init_49 : decode cX9_init 49 = .ok (.putfield 35, 3) := by decide +kernel
theorem dX9_init_52 : decode cX9_init 52 = .ok (.aload_n 0, 1) := by decide +kernel
theorem dX9_init_53 : decode cX9_init 53 = .ok (.new 39, 3) := by decide +kernel
theorem dX9_init_56 : decode cX9_init 56 = .ok (.dup, 1) := by decide +kernel
theorem dX9_init_57 : decode cX9_init 57 = .ok (.invokespecial 41, 3) := by decide +kernel
theorem dX9_init_60 : decode cX9_init 60 = .ok (.putfield 42, 3) := by decide +kernel
theorem dX9_init_63 : decode cX9_init 63 = .ok (.aload_n 0, 1) := by decide +kernel
theorem dX9_init_64 : decode cX9_init 64 = .ok (.new 46, 3) := by decide +kernel
theorem dX9_init_67 : decode cX9_init 67 = .ok (.dup, 1) := by decide +kernel
theorem dX9_init_68 : decode cX9_init 68 = .ok (.invokespecial 48, 3) := by decide +kernel
theorem dX9_init_71 : decode cX9_init 71 = .ok (.putfield 49, 3) := by decide +kernel
theorem dX9_init_74 : decode cX9_init 74 = .ok (.aload_n 0, 1) := by decide +kernel
theorem dX9_init_75 : decode cX9_init 75 = .ok (.new 53, 3) := by decide +kernel
theorem dX9_init_78 : decode cX9_init 78 = .ok (.dup, 1) := by decide +kernel
theorem dX9_init_79 : decode cX9_init 79 = .ok (.aload_n 0, 1) := by decide +kernel
theorem dX9_init_80 : decode cX9_init 80 = .ok (.getfield 49, 3) := by decide +kernel
theorem dX9_init_83 : decode cX9_init 83 = .ok (.invokespecial 55, 3) := by decide +kernel
theorem dX9_init_86 : decode cX9_init 86 = .ok (.putfield 58, 3) := by decide +kernel
theorem dX9_init_89 : decode cX9_init 89 = .ok (.return_, 1) := by decide +kernel
theorem dX9_feed_0 : decode cX9_feed 0 = .ok (.aload_n 0, 1) := by decide +kernel
theorem dX9_feed_1 : decode cX9_feed 1 = .ok (.getfield 10, 3) := by decide +kernel
theorem dX9_feed_4 : decode cX9_feed 4 = .ok (.getfield 62, 3) := by decide +kernel
theorem dX9_feed_7 : decode cX9_feed 7 = .ok (.bipush 20, 2) := by decide +kernel
theorem dX9_feed_9 : decode cX9_feed 9 = .ok (.iadd, 1) := by decide +kernel
theorem dX9_feed_10 : decode cX9_feed 10 = .ok (.bipush 100, 2) := by decide +kernel
theorem dX9_feed_12 : decode cX9_feed 12 = .ok (.if_icmp .le 5, 3) := by decide +kernel
theorem dX9_feed_15 : decode cX9_feed 15 = .ok (.iconst (-1), 1) := by decide +kernel
theorem dX9_feed_16 : decode cX9_feed 16 = .ok (.ireturn, 1) := by decide +kernel
theorem dX9_feed_17 : decode cX9_feed 17 = .ok (.aload_n 0, 1) := by decide +kernel
theorem dX9_feed_18 : decode cX9_feed 18 = .ok (.getfield 10, 3) := by decide +kernel
theorem dX9_feed_21 : decode cX9_feed 21 = .ok (.iload_n 1, 1) := by decide +kernel
theorem dX9_feed_22 : decode cX9_feed 22 = .ok (.invokevirtual 66, 3) := by decide +kernel
theorem dX9_feed_25 : decode cX9_feed 25 = .ok (.aload_n 0, 1) := by decide +kernel
theorem dX9_feed_26 : decode cX9_feed 26 = .ok (.getfield 10, 3) := by decide +kernel
theorem dX9_feed_29 : decode cX9_feed 29 = .ok (.iload_n 2, 1) := by decide +kernel
theorem dX9_feed_30 : decode cX9_feed 30 = .ok (.invokevirtual 66, 3) := by decide +kernel
theorem dX9_feed_33 : decode cX9_feed 33 = .ok (.aload_n 0, 1) := by decide +kernel
theorem dX9_feed_34 : decode cX9_feed 34 = .ok (.getfield 10, 3) := by decide +kernel
theorem dX9_feed_37 : decode cX9_feed 37 = .ok (.iload_n 3, 1) := by decide +kernel
theorem dX9_feed_38 : decode cX9_feed 38 = .ok (.invokevirtual 66, 3) := by decide +kernel
theorem dX9_feed_41 : decode cX9_feed 41 = .ok (.aload_n 0, 1) := by decide +kernel
theorem dX9_feed_42 : decode cX9_feed 42 = .ok (.getfield 10, 3) := by decide +kernel
theorem dX9_feed_45 : decode cX9_feed 45 = .ok (.iload 4, 2) := by decide +kernel
theorem dX9_feed_47 : decode cX9_feed 47 = .ok (.invokevirtual 66, 3) := by decide +kernel
theorem dX9_feed_50 : decode cX9_feed 50 = .ok (.aload_n 0, 1) := by decide +kernel
theorem dX9_feed_51 : decode cX9_feed 51 = .ok (.getfield 10, 3) := by decide +kernel
theorem dX9_feed_54 : decode cX9_feed 54 = .ok (.iload 5, 2) := by decide +kernel
theorem dX9_feed_56 : decode cX9_feed 56 = .ok (.invokevirtual 66, 3) := by decide +kernel
theorem dX9_feed_59 : decode cX9_feed 59 = .ok (.aload_n 0, 1) := by decide +kernel
theorem dX9_feed_60 : decode cX9_feed 60 = .ok (.getfield 10, 3) := by decide +kernel
theorem dX9_feed_63 : decode cX9_feed 63 = .ok (.getfield 62, 3) := by decide +kernel
theorem dX9_feed_66 : decode cX9_feed 66 = .ok (.ireturn, 1) := by decide +kernel
theorem dX9_end_0 : decode cX9_end 0 = .ok (.iload_n 1, 1) := by decide +kernel
theorem dX9_end_1 : decode cX9_end 1 = .ok (.ifCond .lt 14, 3) := by decide +kernel
theorem dX9_end_4 : decode cX9_end 4 = .ok (.iload_n 1, 1) := by decide +kernel
theorem dX9_end_5 : decode cX9_end 5 = .ok (.aload_n 0, 1) := by decide +kernel
theorem dX9_end_6 : decode cX9_end 6 = .ok (.getfield 10, 3) := by decide +kernel
theorem dX9_end_9 : decode cX9_end 9 = .ok (.getfield 62, 3) := by decide +kernel
theorem dX9_end_12 : decode cX9_end 12 = .ok (.if_icmp .le 5, 3) := by decide +kernel
theorem dX9_end_15 : decode cX9_end 15 = .ok (.iconst (-1), 1) := by decide +kernel
theorem dX9_end_16 : decode cX9_end 16 = .ok (.ireturn, 1) := by decide +kernel
theorem dX9_end_17 : decode cX9_end 17 = .ok (.aload_n 0, 1) := by decide +kernel
theorem dX9_end_18 : decode cX9_end 18 = .ok (.getfield 10, 3) := by decide +kernel
theorem dX9_end_21 : decode cX9_end 21 = .ok (.iload_n 1, 1) := by decide +kernel
theorem dX9_end_22 : decode cX9_end 22 = .ok (.putfield 62, 3) := by decide +kernel
theorem dX9_end_25 : decode cX9_end 25 = .ok (.iload_n 1, 1) := by decide +kernel
theorem dX9_end_26 : decode cX9_end 26 = .ok (.ireturn, 1) := by decide +kernel
theorem dX9_hand_0 : decode cX9_hand 0 = .ok (.aload_n 0, 1) := by decide +kernel
theorem dX9_hand_1 : decode cX9_hand 1 = .ok (.getfield 28, 3) := by decide +kernel
theorem dX9_hand_4 : decode cX9_hand 4 = .ok (.invokevirtual 70, 3) := by decide +kernel
theorem dX9_hand_7 : decode cX9_hand 7 = .ok (.istore_n 1, 1) := by decide +kernel
theorem dX9_hand_8 : decode cX9_hand 8 = .ok (.iload_n 1, 1) := by decide +kernel
theorem dX9_hand_9 : decode cX9_hand 9 = .ok (.iconst (-1), 1) := by decide +kernel
theorem dX9_hand_10 : decode cX9_hand 10 = .ok (.if_icmp .ne 5, 3) := by decide +kernel
theorem dX9_hand_13 : decode cX9_hand 13 = .ok (.iconst (-1), 1) := by decide +kernel
theorem dX9_hand_14 : decode cX9_hand 14 = .ok (.ireturn, 1) := by decide +kernel
theorem dX9_hand_15 : decode cX9_hand 15 = .ok (.aload_n 0, 1) := by decide +kernel
theorem dX9_hand_16 : decode cX9_hand 16 = .ok (.getfield 21, 3) := by decide +kernel
theorem dX9_hand_19 : decode cX9_hand 19 = .ok (.invokevirtual 74, 3) := by decide +kernel
theorem dX9_hand_22 : decode cX9_hand 22 = .ok (.istore_n 2, 1) := by decide +kernel
theorem dX9_hand_23 : decode cX9_hand 23 = .ok (.aload_n 0, 1) := by decide +kernel
theorem dX9_hand_24 : decode cX9_hand 24 = .ok (.getfield 10, 3) := by decide +kernel
theorem dX9_hand_27 : decode cX9_hand 27 = .ok (.iconst 0, 1) := by decide +kernel
theorem dX9_hand_28 : decode cX9_hand 28 = .ok (.putfield 62, 3) := by decide +kernel
theorem dX9_hand_31 : decode cX9_hand 31 = .ok (.iload_n 2, 1) := by decide +kernel
theorem dX9_hand_32 : decode cX9_hand 32 = .ok (.ifCond .eq 8, 3) := by decide +kernel
theorem dX9_hand_35 : decode cX9_hand 35 = .ok (.bipush (-2), 2) := by decide +kernel
theorem dX9_hand_37 : decode cX9_hand 37 = .ok (.iload_n 2, 1) := by decide +kernel
theorem dX9_hand_38 : decode cX9_hand 38 = .ok (.isub, 1) := by decide +kernel
theorem dX9_hand_39 : decode cX9_hand 39 = .ok (.ireturn, 1) := by decide +kernel
theorem dX9_hand_40 : decode cX9_hand 40 = .ok (.aload_n 0, 1) := by decide +kernel
theorem dX9_hand_41 : decode cX9_hand 41 = .ok (.getfield 28, 3) := by decide +kernel
theorem dX9_hand_44 : decode cX9_hand 44 = .ok (.getfield 77, 3) := by decide +kernel
theorem dX9_hand_47 : decode cX9_hand 47 = .ok (.iload_n 1, 1) := by decide +kernel
theorem dX9_hand_48 : decode cX9_hand 48 = .ok (.aload_n 0, 1) := by decide +kernel
theorem dX9_hand_49 : decode cX9_hand 49 = .ok (.getfield 21, 3) := by decide +kernel
theorem dX9_hand_52 : decode cX9_hand 52 = .ok (.iload_n 1, 1) := by decide +kernel
theorem dX9_hand_53 : decode cX9_hand 53 = .ok (.invokevirtual 81, 3) := by decide +kernel
theorem dX9_hand_56 : decode cX9_hand 56 = .ok (.aastore, 1) := by decide +kernel
theorem dX9_hand_57 : decode cX9_hand 57 = .ok (.iload_n 1, 1) := by decide +kernel
theorem dX9_hand_58 : decode cX9_hand 58 = .ok (.ireturn, 1) := by decide +kernel
theorem dX9_drop_0 : decode cX9_drop 0 = .ok (.iload_n 1, 1) := by decide +kernel
theorem dX9_drop_1 : decode cX9_drop 1 = .ok (.ifCond .lt 21, 3) := by decide +kernel
theorem dX9_drop_4 : decode cX9_drop 4 = .ok (.iload_n 1, 1) := by decide +kernel
theorem dX9_drop_5 : decode cX9_drop 5 = .ok (.bipush 10, 2) := by decide +kernel
theorem dX9_drop_7 : decode cX9_drop 7 = .ok (.if_icmp .ge 15, 3) := by decide +kernel
theorem dX9_drop_10 : decode cX9_drop 10 = .ok (.aload_n 0, 1) := by decide +kernel
theorem dX9_drop_11 : decode cX9_drop 11 = .ok (.getfield 28, 3) := by decide +kernel
theorem dX9_drop_14 : decode cX9_drop 14 = .ok (.getfield 77, 3) := by decide +kernel
theorem dX9_drop_17 : decode cX9_drop 17 = .ok (.iload_n 1, 1) := by decide +kernel
theorem dX9_drop_18 : decode cX9_drop 18 = .ok (.aaload, 1) := by decide +kernel
theorem dX9_drop_19 : decode cX9_drop 19 = .ok (.ifnonnull 5, 3) := by decide +kernel
theorem dX9_drop_22 : decode cX9_drop 22 = .ok (.iconst 0, 1) := by decide +kernel
theorem dX9_drop_23 : decode cX9_drop 23 = .ok (.ireturn, 1) := by decide +kernel
theorem dX9_drop_24 : decode cX9_drop 24 = .ok (.aload_n 0, 1) := by decide +kernel
theorem dX9_drop_25 : decode cX9_drop 25 = .ok (.getfield 28, 3) := by decide +kernel
theorem dX9_drop_28 : decode cX9_drop 28 = .ok (.getfield 77, 3) := by decide +kernel
theorem dX9_drop_31 : decode cX9_drop 31 = .ok (.iload_n 1, 1) := by decide +kernel
theorem dX9_drop_32 : decode cX9_drop 32 = .ok (.aconst_null, 1) := by decide +kernel
theorem dX9_drop_33 : decode cX9_drop 33 = .ok (.aastore, 1) := by decide +kernel
theorem dX9_drop_34 : decode cX9_drop 34 = .ok (.iconst 1, 1) := by decide +kernel
theorem dX9_drop_35 : decode cX9_drop 35 = .ok (.ireturn, 1) := by decide +kernel
theorem dX9_letter_0 : decode cX9_letter 0 = .ok (.iload_n 1, 1) := by decide +kernel
theorem dX9_letter_1 : decode cX9_letter 1 = .ok (.bipush 16, 2) := by decide +kernel
theorem dX9_letter_3 : decode cX9_letter 3 = .ok (.invokestatic 85, 3) := by decide +kernel
theorem dX9_letter_6 : decode cX9_letter 6 = .ok (.ifCond .eq 41, 3) := by decide +kernel
theorem dX9_letter_9 : decode cX9_letter 9 = .ok (.iload_n 2, 1) := by decide +kernel
theorem dX9_letter_10 : decode cX9_letter 10 = .ok (.iconst (-1), 1) := by decide +kernel
theorem dX9_letter_11 : decode cX9_letter 11 = .ok (.if_icmp .eq 12, 3) := by decide +kernel
theorem dX9_letter_14 : decode cX9_letter 14 = .ok (.iload_n 2, 1) := by decide +kernel
theorem dX9_letter_15 : decode cX9_letter 15 = .ok (.bipush 8, 2) := by decide +kernel
theorem dX9_letter_17 : decode cX9_letter 17 = .ok (.invokestatic 85, 3) := by decide +kernel
theorem dX9_letter_20 : decode cX9_letter 20 = .ok (.ifCond .eq 27, 3) := by decide +kernel
theorem dX9_letter_23 : decode cX9_letter 23 = .ok (.iload_n 3, 1) := by decide +kernel
theorem dX9_letter_24 : decode cX9_letter 24 = .ok (.sipush 1000, 3) := by decide +kernel
theorem dX9_letter_27 : decode cX9_letter 27 = .ok (.invokestatic 85, 3) := by decide +kernel
theorem dX9_letter_30 : decode cX9_letter 30 = .ok (.ifCond .eq 17, 3) := by decide +kernel
theorem dX9_letter_33 : decode cX9_letter 33 = .ok (.iload 4, 2) := by decide +kernel
theorem dX9_letter_35 : decode cX9_letter 35 = .ok (.ldc 89, 2) := by decide +kernel
theorem dX9_letter_37 : decode cX9_letter 37 = .ok (.invokestatic 85, 3) := by decide +kernel
theorem dX9_letter_40 : decode cX9_letter 40 = .ok (.ifCond .eq 7, 3) := by decide +kernel
theorem dX9_letter_43 : decode cX9_letter 43 = .ok (.iconst 1, 1) := by decide +kernel
theorem dX9_letter_44 : decode cX9_letter 44 = .ok (.goto 4, 3) := by decide +kernel
theorem dX9_letter_47 : decode cX9_letter 47 = .ok (.iconst 0, 1) := by decide +kernel
theorem dX9_letter_48 : decode cX9_letter 48 = .ok (.istore 5, 2) := by decide +kernel
theorem dX9_letter_50 : decode cX9_letter 50 = .ok (.iload 5, 2) := by decide +kernel
theorem dX9_letter_52 : decode cX9_letter 52 = .ok (.ifCond .eq 15, 3) := by decide +kernel
theorem dX9_letter_55 : decode cX9_letter 55 = .ok (.aload_n 0, 1) := by decide +kernel
theorem dX9_letter_56 : decode cX9_letter 56 = .ok (.getfield 35, 3) := by decide +kernel
theorem dX9_letter_59 : decode cX9_letter 59 = .ok (.getfield 90, 3) := by decide +kernel
theorem dX9_letter_62 : decode cX9_letter 62 = .ok (.bipush 100, 2) := by decide +kernel
theorem dX9_letter_64 : decode cX9_letter 64 = .ok (.if_icmp .ne 5, 3) := by decide +kernel
theorem dX9_letter_67 : decode cX9_letter 67 = .ok (.iconst (-1), 1) := by decide +kernel
theorem dX9_letter_68 : decode cX9_letter 68 = .ok (.ireturn, 1) := by decide +kernel
theorem dX9_letter_69 : decode cX9_letter 69 = .ok (.new 93, 3) := by decide +kernel
theorem dX9_letter_72 : decode cX9_letter 72 = .ok (.dup, 1) := by decide +kernel
theorem dX9_letter_73 : decode cX9_letter 73 = .ok (.iload_n 1, 1) := by decide +kernel
theorem dX9_letter_74 : decode cX9_letter 74 = .ok (.iload_n 2, 1) := by decide +kernel
theorem dX9_letter_75 : decode cX9_letter 75 = .ok (.iload_n 3, 1) := by decide +kernel
theorem dX9_letter_76 : decode cX9_letter 76 = .ok (.iload 4, 2) := by decide +kernel
theorem dX9_letter_78 : decode cX9_letter 78 = .ok (.invokespecial 95, 3) := by decide +kernel
theorem dX9_letter_81 : decode cX9_letter 81 = .ok (.astore 6, 2) := by decide +kernel
theorem dX9_letter_83 : decode cX9_letter 83 = .ok (.aload 6, 2) := by decide +kernel
theorem dX9_letter_85 : decode cX9_letter 85 = .ok (.aload_n 0, 1) := by decide +kernel
theorem dX9_letter_86 : decode cX9_letter 86 = .ok (.getfield 28, 3) := by decide +kernel
theorem dX9_letter_89 : decode cX9_letter 89 = .ok (.aload 6, 2) := by decide +kernel
theorem dX9_letter_91 : decode cX9_letter 91 = .ok (.invokevirtual 98, 3) := by decide +kernel
theorem dX9_letter_94 : decode cX9_letter 94 = .ok (.invokevirtual 102, 3) := by decide +kernel
theorem dX9_letter_97 : decode cX9_letter 97 = .ok (.aload_n 0, 1) := by decide +kernel
theorem dX9_letter_98 : decode cX9_letter 98 = .ok (.getfield 35, 3) := by decide +kernel
theorem dX9_letter_101 : decode cX9_letter 101 = .ok (.aload 6, 2) := by decide +kernel
theorem dX9_letter_103 : decode cX9_letter 103 = .ok (.invokevirtual 106, 3) := by decide +kernel
theorem dX9_letter_106 : decode cX9_letter 106 = .ok (.ireturn, 1) := by decide +kernel
theorem dX9_move_0 : decode cX9_move 0 = .ok (.aload_n 0, 1) := by decide +kernel
theorem dX9_move_1 : decode cX9_move 1 = .ok (.getfield 35, 3) := by decide +kernel
theorem dX9_move_4 : decode cX9_move 4 = .ok (.iload_n 1, 1) := by decide +kernel
theorem dX9_move_5 : decode cX9_move 5 = .ok (.invokevirtual 110, 3) := by decide +kernel
theorem dX9_move_8 : decode cX9_move 8 = .ok (.astore_n 3, 1) := by decide +kernel
theorem dX9_move_9 : decode cX9_move 9 = .ok (.aload_n 3, 1) := by decide +kernel
theorem dX9_move_10 : decode cX9_move 10 = .ok (.ifnull 25, 3) := by decide +kernel
theorem dX9_move_13 : decode cX9_move 13 = .ok (.iload_n 2, 1) := by decide +kernel
theorem dX9_move_14 : decode cX9_move 14 = .ok (.bipush 8, 2) := by decide +kernel
theorem dX9_move_16 : decode cX9_move 16 = .ok (.invokestatic 85, 3) := by decide +kernel
theorem dX9_move_19 : decode cX9_move 19 = .ok (.ifCond .eq 16, 3) := by decide +kernel
theorem dX9_move_22 : decode cX9_move 22 = .ok (.aload_n 0, 1) := by decide +kernel
theorem dX9_move_23 : decode cX9_move 23 = .ok (.getfield 42, 3) := by decide +kernel
theorem dX9_move_26 : decode cX9_move 26 = .ok (.getfield 114, 3) := by decide +kernel
theorem dX9_move_29 : decode cX9_move 29 = .ok (.sipush 200, 3) := by decide +kernel
theorem dX9_move_32 : decode cX9_move 32 = .ok (.if_icmp .ne 5, 3) := by decide +kernel
theorem dX9_move_35 : decode cX9_move 35 = .ok (.iconst 0, 1) := by decide +kernel
theorem dX9_move_36 : decode cX9_move 36 = .ok (.ireturn, 1) := by decide +kernel
theorem dX9_move_37 : decode cX9_move 37 = .ok (.aload_n 0, 1) := by decide +kernel
theorem dX9_move_38 : decode cX9_move 38 = .ok (.getfield 42, 3) := by decide +kernel
theorem dX9_move_41 : decode cX9_move 41 = .ok (.iload_n 1, 1) := by decide +kernel
theorem dX9_move_42 : decode cX9_move 42 = .ok (.aload_n 3, 1) := by decide +kernel
theorem dX9_move_43 : decode cX9_move 43 = .ok (.invokevirtual 115, 3) := by decide +kernel
theorem dX9_move_46 : decode cX9_move 46 = .ok (.aload_n 3, 1) := by decide +kernel
theorem dX9_move_47 : decode cX9_move 47 = .ok (.iload_n 2, 1) := by decide +kernel
theorem dX9_move_48 : decode cX9_move 48 = .ok (.putfield 119, 3) := by decide +kernel
theorem dX9_move_51 : decode cX9_move 51 = .ok (.aload_n 3, 1) := by decide +kernel
theorem dX9_move_52 : decode cX9_move 52 = .ok (.iload_n 2, 1) := by decide +kernel
theorem dX9_move_53 : decode cX9_move 53 = .ok (.putfield 122, 3) := by decide +kernel
theorem dX9_move_56 : decode cX9_move 56 = .ok (.iconst 1, 1) := by decide +kernel
theorem dX9_move_57 : decode cX9_move 57 = .ok (.ireturn, 1) := by decide +kernel
theorem dX9_undo_0 : decode cX9_undo 0 = .ok (.aload_n 0, 1) := by decide +kernel
theorem dX9_undo_1 : decode cX9_undo 1 = .ok (.getfield 42, 3) := by decide +kernel
theorem dX9_undo_4 : decode cX9_undo 4 = .ok (.aload_n 0, 1) := by decide +kernel
theorem dX9_undo_5 : decode cX9_undo 5 = .ok (.getfield 35, 3) := by decide +kernel
theorem dX9_undo_8 : decode cX9_undo 8 = .ok (.invokevirtual 125, 3) := by decide +kernel
theorem dX9_undo_11 : decode cX9_undo 11 = .ok (.ireturn, 1) := by decide +kernel
theorem dX9_cost_0 : decode cX9_cost 0 = .ok (.aload_n 0, 1) := by decide +kernel
theorem dX9_cost_1 : decode cX9_cost 1 = .ok (.getfield 49, 3) := by decide +kernel
theorem dX9_cost_4 : decode cX9_cost 4 = .ok (.iload_n 1, 1) := by decide +kernel
theorem dX9_cost_5 : decode cX9_cost 5 = .ok (.iload_n 2, 1) := by decide +kernel
theorem dX9_cost_6 : decode cX9_cost 6 = .ok (.invokevirtual 129, 3) := by decide +kernel
theorem dX9_cost_9 : decode cX9_cost 9 = .ok (.ireturn, 1) := by decide +kernel
theorem dX9_learn_0 : decode cX9_learn 0 = .ok (.aload_n 0, 1) := by decide +kernel
theorem dX9_learn_1 : decode cX9_learn 1 = .ok (.getfield 58, 3) := by decide +kernel
theorem dX9_learn_4 : decode cX9_learn 4 = .ok (.aload_n 0, 1) := by decide +kernel
theorem dX9_learn_5 : decode cX9_learn 5 = .ok (.getfield 35, 3) := by decide +kernel
theorem dX9_learn_8 : decode cX9_learn 8 = .ok (.aload_n 0, 1) := by decide +kernel
theorem dX9_learn_9 : decode cX9_learn 9 = .ok (.getfield 28, 3) := by decide +kernel
theorem dX9_learn_12 : decode cX9_learn 12 = .ok (.invokevirtual 133, 3) := by decide +kernel
theorem dX9_learn_15 : decode cX9_learn 15 = .ok (.aload_n 0, 1) := by decide +kernel
theorem dX9_learn_16 : decode cX9_learn 16 = .ok (.getfield 28, 3) := by decide +kernel
theorem dX9_learn_19 : decode cX9_learn 19 = .ok (.getfield 137, 3) := by decide +kernel
theorem dX9_learn_22 : decode cX9_learn 22 = .ok (.ireturn, 1) := by decide +kernel
theorem dX9_learnt_0 : decode cX9_learnt 0 = .ok (.aload_n 0, 1) := by decide +kernel
theorem dX9_learnt_1 : decode cX9_learnt 1 = .ok (.getfield 58, 3) := by decide +kernel
theorem dX9_learnt_4 : decode cX9_learnt 4 = .ok (.getfield 140, 3) := by decide +kernel
theorem dX9_learnt_7 : decode cX9_learnt 7 = .ok (.ifCond .ne 5, 3) := by decide +kernel
theorem dX9_learnt_10 : decode cX9_learnt 10 = .ok (.iconst (-1), 1) := by decide +kernel
theorem dX9_learnt_11 : decode cX9_learnt 11 = .ok (.ireturn, 1) := by decide +kernel
theorem dX9_learnt_12 : decode cX9_learnt 12 = .ok (.iload_n 1, 1) := by decide +kernel
theorem dX9_learnt_13 : decode cX9_learnt 13 = .ok (.tableswitch 75 0 4 #[35, 43, 51, 59, 67], 35) := by decide +kernel
theorem dX9_learnt_48 : decode cX9_learnt 48 = .ok (.aload_n 0, 1) := by decide +kernel
theorem dX9_learnt_49 : decode cX9_learnt 49 = .ok (.getfield 58, 3) := by decide +kernel
theorem dX9_learnt_52 : decode cX9_learnt 52 = .ok (.getfield 144, 3) := by decide +kernel
theorem dX9_learnt_55 : decode cX9_learnt 55 = .ok (.ireturn, 1) := by decide +kernel
theorem dX9_learnt_56 : decode cX9_learnt 56 = .ok (.aload_n 0, 1) := by decide +kernel
theorem dX9_learnt_57 : decode cX9_learnt 57 = .ok (.getfield 58, 3) := by decide +kernel
theorem dX9_learnt_60 : decode cX9_learnt 60 = .ok (.getfield 147, 3) := by decide +kernel
theorem dX9_learnt_63 : decode cX9_learnt 63 = .ok (.ireturn, 1) := by decide +kernel
theorem dX9_learnt_64 : decode cX9_learnt 64 = .ok (.aload_n 0, 1) := by decide +kernel
theorem dX9_learnt_65 : decode cX9_learnt 65 = .ok (.getfield 58, 3) := by decide +kernel
theorem dX9_learnt_68 : decode cX9_learnt 68 = .ok (.getfield 150, 3) := by decide +kernel
theorem dX9_learnt_71 : decode cX9_learnt 71 = .ok (.ireturn, 1) := by decide +kernel
theorem dX9_learnt_72 : decode cX9_learnt 72 = .ok (.aload_n 0, 1) := by decide +kernel
theorem dX9_learnt_73 : decode cX9_learnt 73 = .ok (.getfield 58, 3) := by decide +kernel
theorem dX9_learnt_76 : decode cX9_learnt 76 = .ok (.getfield 153, 3) := by decide +kernel
theorem dX9_learnt_79 : decode cX9_learnt 79 = .ok (.ireturn, 1) := by decide +kernel
theorem dX9_learnt_80 : decode cX9_learnt 80 = .ok (.aload_n 0, 1) := by decide +kernel
theorem dX9_learnt_81 : decode cX9_learnt 81 = .ok (.getfield 58, 3) := by decide +kernel
theorem dX9_learnt_84 : decode cX9_learnt 84 = .ok (.getfield 156, 3) := by decide +kernel
theorem dX9_learnt_87 : decode cX9_learnt 87 = .ok (.ireturn, 1) := by decide +kernel
theorem dX9_learnt_88 : decode cX9_learnt 88 = .ok (.iconst (-1), 1) := by decide +kernel
theorem dX9_learnt_89 : decode cX9_learnt 89 = .ok (.ireturn, 1) := by decide +kernel
theorem dX9_fade_0 : decode cX9_fade 0 = .ok (.iload_n 1, 1) := by decide +kernel
theorem dX9_fade_1 : decode cX9_fade 1 = .ok (.iconst 1, 1) := by decide +kernel
theorem dX9_fade_2 : decode cX9_fade 2 = .ok (.if_icmp .lt 9, 3) := by decide +kernel
theorem dX9_fade_5 : decode cX9_fade 5 = .ok (.iload_n 1, 1) := by decide +kernel
theorem dX9_fade_6 : decode cX9_fade 6 = .ok (.bipush 100, 2) := by decide +kernel
theorem dX9_fade_8 : decode cX9_fade 8 = .ok (.if_icmp .le 5, 3) := by decide +kernel
theorem dX9_fade_11 : decode cX9_fade 11 = .ok (.iconst (-1), 1) := by decide +kernel
theorem dX9_fade_12 : decode cX9_fade 12 = .ok (.ireturn, 1) := by decide +kernel
theorem dX9_fade_13 : decode cX9_fade 13 = .ok (.iconst 0, 1) := by decide +kernel
theorem dX9_fade_14 : decode cX9_fade 14 = .ok (.istore_n 2, 1) := by decide +kernel
theorem dX9_fade_15 : decode cX9_fade 15 = .ok (.iconst 0, 1) := by decide +kernel
theorem dX9_fade_16 : decode cX9_fade 16 = .ok (.istore_n 3, 1) := by decide +kernel
theorem dX9_fade_17 : decode cX9_fade 17 = .ok (.iload_n 3, 1) := by decide +kernel
theorem dX9_fade_18 : decode cX9_fade 18 = .ok (.aload_n 0, 1) := by decide +kernel
theorem dX9_fade_19 : decode cX9_fade 19 = .ok (.getfield 28, 3) := by decide +kernel
theorem dX9_fade_22 : decode cX9_fade 22 = .ok (.getfield 137, 3) := by decide +kernel
theorem dX9_fade_25 : decode cX9_fade 25 = .ok (.if_icmp .ge 44, 3) := by decide +kernel
theorem dX9_fade_28 : decode cX9_fade 28 = .ok (.aload_n 0, 1) := by decide +kernel
theorem dX9_fade_29 : decode cX9_fade 29 = .ok (.getfield 28, 3) := by decide +kernel
theorem dX9_fade_32 : decode cX9_fade 32 = .ok (.getfield 159, 3) := by decide +kernel
theorem dX9_fade_35 : decode cX9_fade 35 = .ok (.iload_n 3, 1) := by decide +kernel
theorem dX9_fade_36 : decode cX9_fade 36 = .ok (.aaload, 1) := by decide +kernel
theorem dX9_fade_37 : decode cX9_fade 37 = .ok (.astore 4, 2) := by decide +kernel
theorem dX9_fade_39 : decode cX9_fade 39 = .ok (.aload_n 0, 1) := by decide +kernel
theorem dX9_fade_40 : decode cX9_fade 40 = .ok (.aload 4, 2) := by decide +kernel
theorem dX9_fade_42 : decode cX9_fade 42 = .ok (.iload_n 1, 1) := by decide +kernel
theorem dX9_fade_43 : decode cX9_fade 43 = .ok (.invokevirtual 162, 3) := by decide +kernel
theorem dX9_fade_46 : decode cX9_fade 46 = .ok (.ifCond .ne 17, 3) := by decide +kernel
theorem dX9_fade_49 : decode cX9_fade 49 = .ok (.aload_n 0, 1) := by decide +kernel
theorem dX9_fade_50 : decode cX9_fade 50 = .ok (.getfield 28, 3) := by decide +kernel
theorem dX9_fade_53 : decode cX9_fade 53 = .ok (.getfield 159, 3) := by decide +kernel
theorem dX9_fade_56 : decode cX9_fade 56 = .ok (.iload_n 2, 1) := by decide +kernel
theorem dX9_fade_57 : decode cX9_fade 57 = .ok (.aload 4, 2) := by decide +kernel
theorem dX9_fade_59 : decode cX9_fade 59 = .ok (.aastore, 1) := by decide +kernel
theorem dX9_fade_60 : decode cX9_fade 60 = .ok (.iinc 2 1, 3) := by decide +kernel
theorem dX9_fade_63 : decode cX9_fade 63 = .ok (.iinc 3 1, 3) := by decide +kernel
theorem dX9_fade_66 : decode cX9_fade 66 = .ok (.goto (-49), 3) := by decide +kernel
theorem dX9_fade_69 : decode cX9_fade 69 = .ok (.aload_n 0, 1) := by decide +kernel
theorem dX9_fade_70 : decode cX9_fade 70 = .ok (.getfield 28, 3) := by decide +kernel
theorem dX9_fade_73 : decode cX9_fade 73 = .ok (.getfield 137, 3) := by decide +kernel
theorem dX9_fade_76 : decode cX9_fade 76 = .ok (.iload_n 2, 1) := by decide +kernel
theorem dX9_fade_77 : decode cX9_fade 77 = .ok (.isub, 1) := by decide +kernel
theorem dX9_fade_78 : decode cX9_fade 78 = .ok (.istore_n 3, 1) := by decide +kernel
theorem dX9_fade_79 : decode cX9_fade 79 = .ok (.aload_n 0, 1) := by decide +kernel
theorem dX9_fade_80 : decode cX9_fade 80 = .ok (.getfield 28, 3) := by decide +kernel
theorem dX9_fade_83 : decode cX9_fade 83 = .ok (.iload_n 2, 1) := by decide +kernel
theorem dX9_fade_84 : decode cX9_fade 84 = .ok (.putfield 137, 3) := by decide +kernel
theorem dX9_fade_87 : decode cX9_fade 87 = .ok (.iload_n 3, 1) := by decide +kernel
theorem dX9_fade_88 : decode cX9_fade 88 = .ok (.ireturn, 1) := by decide +kernel
theorem dX9_rule_0 : decode cX9_rule 0 = .ok (.aload_n 0, 1) := by decide +kernel
theorem dX9_rule_1 : decode cX9_rule 1 = .ok (.getfield 28, 3) := by decide +kernel
theorem dX9_rule_4 : decode cX9_rule 4 = .ok (.iload_n 1, 1) := by decide +kernel
theorem dX9_rule_5 : decode cX9_rule 5 = .ok (.invokevirtual 166, 3) := by decide +kernel
theorem dX9_rule_8 : decode cX9_rule 8 = .ok (.astore_n 3, 1) := by decide +kernel
theorem dX9_rule_9 : decode cX9_rule 9 = .ok (.aload_n 3, 1) := by decide +kernel
theorem dX9_rule_10 : decode cX9_rule 10 = .ok (.ifnonnull 5, 3) := by decide +kernel
theorem dX9_rule_13 : decode cX9_rule 13 = .ok (.iconst (-1), 1) := by decide +kernel
theorem dX9_rule_14 : decode cX9_rule 14 = .ok (.ireturn, 1) := by decide +kernel
theorem dX9_rule_15 : decode cX9_rule 15 = .ok (.iload_n 2, 1) := by decide +kernel
theorem dX9_rule_16 : decode cX9_rule 16 = .ok (.tableswitch 44 0 2 #[28, 33, 38], 28) := by decide +kernel
theorem dX9_rule_44 : decode cX9_rule 44 = .ok (.aload_n 3, 1) := by decide +kernel
theorem dX9_rule_45 : decode cX9_rule 45 = .ok (.getfield 168, 3) := by decide +kernel
theorem dX9_rule_48 : decode cX9_rule 48 = .ok (.ireturn, 1) := by decide +kernel
theorem dX9_rule_49 : decode cX9_rule 49 = .ok (.aload_n 3, 1) := by decide +kernel
theorem dX9_rule_50 : decode cX9_rule 50 = .ok (.getfield 173, 3) := by decide +kernel
theorem dX9_rule_53 : decode cX9_rule 53 = .ok (.ireturn, 1) := by decide +kernel
theorem dX9_rule_54 : decode cX9_rule 54 = .ok (.aload_n 3, 1) := by decide +kernel
theorem dX9_rule_55 : decode cX9_rule 55 = .ok (.getfield 176, 3) := by decide +kernel
theorem dX9_rule_58 : decode cX9_rule 58 = .ok (.arraylength, 1) := by decide +kernel
theorem dX9_rule_59 : decode cX9_rule 59 = .ok (.ireturn, 1) := by decide +kernel
theorem dX9_rule_60 : decode cX9_rule 60 = .ok (.aload_n 3, 1) := by decide +kernel
theorem dX9_rule_61 : decode cX9_rule 61 = .ok (.iload_n 2, 1) := by decide +kernel
theorem dX9_rule_62 : decode cX9_rule 62 = .ok (.bipush 10, 2) := by decide +kernel
theorem dX9_rule_64 : decode cX9_rule 64 = .ok (.isub, 1) := by decide +kernel
theorem dX9_rule_65 : decode cX9_rule 65 = .ok (.invokevirtual 180, 3) := by decide +kernel
theorem dX9_rule_68 : decode cX9_rule 68 = .ok (.ireturn, 1) := by decide +kernel
theorem dX9_record_0 : decode cX9_record 0 = .ok (.aload_n 0, 1) := by decide +kernel
theorem dX9_record_1 : decode cX9_record 1 = .ok (.getfield 28, 3) := by decide +kernel
theorem dX9_record_4 : decode cX9_record 4 = .ok (.iload_n 1, 1) := by decide +kernel
theorem dX9_record_5 : decode cX9_record 5 = .ok (.invokevirtual 166, 3) := by decide +kernel
theorem dX9_record_8 : decode cX9_record 8 = .ok (.astore_n 3, 1) := by decide +kernel
theorem dX9_record_9 : decode cX9_record 9 = .ok (.aload_n 3, 1) := by decide +kernel
theorem dX9_record_10 : decode cX9_record 10 = .ok (.ifnonnull 5, 3) := by decide +kernel
theorem dX9_record_13 : decode cX9_record 13 = .ok (.iconst (-1), 1) := by decide +kernel
theorem dX9_record_14 : decode cX9_record 14 = .ok (.ireturn, 1) := by decide +kernel
theorem dX9_record_15 : decode cX9_record 15 = .ok (.iload_n 2, 1) := by decide +kernel
theorem dX9_record_16 : decode cX9_record 16 = .ok (.tableswitch 68 0 3 #[32, 41, 50, 59], 32) := by decide +kernel
theorem dX9_record_48 : decode cX9_record 48 = .ok (.aload_n 0, 1) := by decide +kernel
theorem dX9_record_49 : decode cX9_record 49 = .ok (.getfield 35, 3) := by decide +kernel
theorem dX9_record_52 : decode cX9_record 52 = .ok (.aload_n 3, 1) := by decide +kernel
theorem dX9_record_53 : decode cX9_record 53 = .ok (.invokevirtual 184, 3) := by decide +kernel
theorem dX9_record_56 : decode cX9_record 56 = .ok (.ireturn, 1) := by decide +kernel
theorem dX9_record_57 : decode cX9_record 57 = .ok (.aload_n 0, 1) := by decide +kernel
theorem dX9_record_58 : decode cX9_record 58 = .ok (.getfield 35, 3) := by decide +kernel
theorem dX9_record_61 : decode cX9_record 61 = .ok (.aload_n 3, 1) := by decide +kernel
theorem dX9_record_62 : decode cX9_record 62 = .ok (.invokevirtual 188, 3) := by decide +kernel
theorem dX9_record_65 : decode cX9_record 65 = .ok (.ireturn, 1) := by decide +kernel
theorem dX9_record_66 : decode cX9_record 66 = .ok (.aload_n 0, 1) := by decide +kernel
theorem dX9_record_67 : decode cX9_record 67 = .ok (.getfield 35, 3) := by decide +kernel
theorem dX9_record_70 : decode cX9_record 70 = .ok (.aload_n 3, 1) := by decide +kernel
theorem dX9_record_71 : decode cX9_record 71 = .ok (.invokevirtual 191, 3) := by decide +kernel
theorem dX9_record_74 : decode cX9_record 74 = .ok (.ireturn, 1) := by decide +kernel
theorem dX9_record_75 : decode cX9_record 75 = .ok (.aload_n 0, 1) := by decide +kernel
theorem dX9_record_76 : decode cX9_record 76 = .ok (.getfield 35, 3) := by decide +kernel
theorem dX9_record_79 : decode cX9_record 79 = .ok (.aload_n 3, 1) := by decide +kernel
theorem dX9_record_80 : decode cX9_record 80 = .ok (.invokevirtual 194, 3) := by decide +kernel
theorem dX9_record_83 : decode cX9_record 83 = .ok (.ireturn, 1) := by decide +kernel
theorem dX9_record_84 : decode cX9_record 84 = .ok (.iconst (-1), 1) := by decide +kernel
theorem dX9_record_85 : decode cX9_record 85 = .ok (.ireturn, 1) := by decide +kernel
theorem dX9_both_0 : decode cX9_both 0 = .ok (.aload_n 0, 1) := by decide +kernel
theorem dX9_both_1 : decode cX9_both 1 = .ok (.getfield 28, 3) := by decide +kernel
theorem dX9_both_4 : decode cX9_both 4 = .ok (.iload_n 1, 1) := by decide +kernel
theorem dX9_both_5 : decode cX9_both 5 = .ok (.invokevirtual 166, 3) := by decide +kernel
theorem dX9_both_8 : decode cX9_both 8 = .ok (.astore_n 3, 1) := by decide +kernel
theorem dX9_both_9 : decode cX9_both 9 = .ok (.aload_n 0, 1) := by decide +kernel
theorem dX9_both_10 : decode cX9_both 10 = .ok (.getfield 28, 3) := by decide +kernel
theorem dX9_both_13 : decode cX9_both 13 = .ok (.iload_n 2, 1) := by decide +kernel
theorem dX9_both_14 : decode cX9_both 14 = .ok (.invokevirtual 166, 3) := by decide +kernel
theorem dX9_both_17 : decode cX9_both 17 = .ok (.astore 4, 2) := by decide +kernel
theorem dX9_both_19 : decode cX9_both 19 = .ok (.aload_n 3, 1) := by decide +kernel
theorem dX9_both_20 : decode cX9_both 20 = .ok (.ifnull 8, 3) := by decide +kernel
theorem dX9_both_23 : decode cX9_both 23 = .ok (.aload 4, 2) := by decide +kernel
theorem dX9_both_25 : decode cX9_both 25 = .ok (.ifnonnull 5, 3) := by decide +kernel
theorem dX9_both_28 : decode cX9_both 28 = .ok (.iconst (-1), 1) := by decide +kernel
theorem dX9_both_29 : decode cX9_both 29 = .ok (.ireturn, 1) := by decide +kernel
theorem dX9_both_30 : decode cX9_both 30 = .ok (.iconst 0, 1) := by decide +kernel
theorem dX9_both_31 : decode cX9_both 31 = .ok (.istore 5, 2) := by decide +kernel
theorem dX9_both_33 : decode cX9_both 33 = .ok (.iload 5, 2) := by decide +kernel
theorem dX9_both_35 : decode cX9_both 35 = .ok (.aload_n 0, 1) := by decide +kernel
theorem dX9_both_36 : decode cX9_both 36 = .ok (.getfield 35, 3) := by decide +kernel
theorem dX9_both_39 : decode cX9_both 39 = .ok (.getfield 90, 3) := by decide +kernel
theorem dX9_both_42 : decode cX9_both 42 = .ok (.if_icmp .ge 47, 3) := by decide +kernel
theorem dX9_both_45 : decode cX9_both 45 = .ok (.aload_n 3, 1) := by decide +kernel
theorem dX9_both_46 : decode cX9_both 46 = .ok (.aload_n 0, 1) := by decide +kernel
theorem dX9_both_47 : decode cX9_both 47 = .ok (.getfield 35, 3) := by decide +kernel
theorem dX9_both_50 : decode cX9_both 50 = .ok (.getfield 197, 3) := by decide +kernel
theorem dX9_both_53 : decode cX9_both 53 = .ok (.iload 5, 2) := by decide +kernel
theorem dX9_both_55 : decode cX9_both 55 = .ok (.aaload, 1) := by decide +kernel
theorem dX9_both_56 : decode cX9_both 56 = .ok (.invokevirtual 201, 3) := by decide +kernel
theorem dX9_both_59 : decode cX9_both 59 = .ok (.ifCond .eq 24, 3) := by decide +kernel
theorem dX9_both_62 : decode cX9_both 62 = .ok (.aload 4, 2) := by decide +kernel
theorem dX9_both_64 : decode cX9_both 64 = .ok (.aload_n 0, 1) := by decide +kernel
theorem dX9_both_65 : decode cX9_both 65 = .ok (.getfield 35, 3) := by decide +kernel
theorem dX9_both_68 : decode cX9_both 68 = .ok (.getfield 197, 3) := by decide +kernel
theorem dX9_both_71 : decode cX9_both 71 = .ok (.iload 5, 2) := by decide +kernel
theorem dX9_both_73 : decode cX9_both 73 = .ok (.aaload, 1) := by decide +kernel
theorem dX9_both_74 : decode cX9_both 74 = .ok (.invokevirtual 201, 3) := by decide +kernel
theorem dX9_both_77 : decode cX9_both 77 = .ok (.ifCond .eq 6, 3) := by decide +kernel
theorem dX9_both_80 : decode cX9_both 80 = .ok (.iload 5, 2) := by decide +kernel
theorem dX9_both_82 : decode cX9_both 82 = .ok (.ireturn, 1) := by decide +kernel
theorem dX9_both_83 : decode cX9_both 83 = .ok (.iinc 5 1, 3) := by decide +kernel
theorem dX9_both_86 : decode cX9_both 86 = .ok (.goto (-53), 3) := by decide +kernel
theorem dX9_both_89 : decode cX9_both 89 = .ok (.iconst (-1), 1) := by decide +kernel
theorem dX9_both_90 : decode cX9_both 90 = .ok (.ireturn, 1) := by decide +kernel
theorem dX9_about_0 : decode cX9_about 0 = .ok (.aload_n 0, 1) := by decide +kernel
theorem dX9_about_1 : decode cX9_about 1 = .ok (.getfield 35, 3) := by decide +kernel
theorem dX9_about_4 : decode cX9_about 4 = .ok (.iload_n 1, 1) := by decide +kernel
theorem dX9_about_5 : decode cX9_about 5 = .ok (.invokevirtual 110, 3) := by decide +kernel
theorem dX9_about_8 : decode cX9_about 8 = .ok (.astore_n 3, 1) := by decide +kernel
theorem dX9_about_9 : decode cX9_about 9 = .ok (.aload_n 3, 1) := by decide +kernel
theorem dX9_about_10 : decode cX9_about 10 = .ok (.ifnonnull 5, 3) := by decide +kernel
theorem dX9_about_13 : decode cX9_about 13 = .ok (.iconst (-1), 1) := by decide +kernel
theorem dX9_about_14 : decode cX9_about 14 = .ok (.ireturn, 1) := by decide +kernel
theorem dX9_about_15 : decode cX9_about 15 = .ok (.iload_n 2, 1) := by decide +kernel
theorem dX9_about_16 : decode cX9_about 16 = .ok (.tableswitch 79 0 4 #[36, 41, 60, 65, 70], 36) := by decide +kernel
theorem dX9_about_52 : decode cX9_about 52 = .ok (.aload_n 3, 1) := by decide +kernel
theorem dX9_about_53 : decode cX9_about 53 = .ok (.getfield 119, 3) := by decide +kernel
theorem dX9_about_56 : decode cX9_about 56 = .ok (.ireturn, 1) := by decide +kernel
theorem dX9_about_57 : decode cX9_about 57 = .ok (.aload_n 3, 1) := by decide +kernel
theorem dX9_about_58 : decode cX9_about 58 = .ok (.getfield 205, 3) := by decide +kernel
theorem dX9_about_61 : decode cX9_about 61 = .ok (.ifnonnull 7, 3) := by decide +kernel
theorem dX9_about_64 : decode cX9_about 64 = .ok (.iconst (-1), 1) := by decide +kernel
theorem dX9_about_65 : decode cX9_about 65 = .ok (.goto 10, 3) := by decide +kernel
theorem dX9_about_68 : decode cX9_about 68 = .ok (.aload_n 3, 1) := by decide +kernel
theorem dX9_about_69 : decode cX9_about 69 = .ok (.getfield 205, 3) := by decide +kernel
theorem dX9_about_72 : decode cX9_about 72 = .ok (.getfield 168, 3) := by decide +kernel
theorem dX9_about_75 : decode cX9_about 75 = .ok (.ireturn, 1) := by decide +kernel
theorem dX9_about_76 : decode cX9_about 76 = .ok (.aload_n 3, 1) := by decide +kernel
theorem dX9_about_77 : decode cX9_about 77 = .ok (.getfield 209, 3) := by decide +kernel
theorem dX9_about_80 : decode cX9_about 80 = .ok (.ireturn, 1) := by decide +kernel
theorem dX9_about_81 : decode cX9_about 81 = .ok (.aload_n 3, 1) := by decide +kernel
theorem dX9_about_82 : decode cX9_about 82 = .ok (.getfield 122, 3) := by decide +kernel
theorem dX9_about_85 : decode cX9_about 85 = .ok (.ireturn, 1) := by decide +kernel
theorem dX9_about_86 : decode cX9_about 86 = .ok (.aload_n 0, 1) := by decide +kernel
theorem dX9_about_87 : decode cX9_about 87 = .ok (.getfield 28, 3) := by decide +kernel
theorem dX9_about_90 : decode cX9_about 90 = .ok (.aload_n 3, 1) := by decide +kernel
theorem dX9_about_91 : decode cX9_about 91 = .ok (.invokevirtual 212, 3) := by decide +kernel
theorem dX9_about_94 : decode cX9_about 94 = .ok (.ireturn, 1) := by decide +kernel
theorem dX9_about_95 : decode cX9_about 95 = .ok (.iconst (-1), 1) := by decide +kernel
theorem dX9_about_96 : decode cX9_about 96 = .ok (.ireturn, 1) := by decide +kernel
theorem dX9_heap_0 : decode cX9_heap 0 = .ok (.iload_n 1, 1) := by decide +kernel
theorem dX9_heap_1 : decode cX9_heap 1 = .ok (.iconst 1, 1) := by decide +kernel
theorem dX9_heap_2 : decode cX9_heap 2 = .ok (.if_icmp .lt 9, 3) := by decide +kernel
theorem dX9_heap_5 : decode cX9_heap 5 = .ok (.iload_n 1, 1) := by decide +kernel
theorem dX9_heap_6 : decode cX9_heap 6 = .ok (.bipush 100, 2) := by decide +kernel
theorem dX9_heap_8 : decode cX9_heap 8 = .ok (.if_icmp .le 5, 3) := by decide +kernel
theorem dX9_heap_11 : decode cX9_heap 11 = .ok (.iconst (-1), 1) := by decide +kernel
theorem dX9_heap_12 : decode cX9_heap 12 = .ok (.ireturn, 1) := by decide +kernel
theorem dX9_heap_13 : decode cX9_heap 13 = .ok (.iconst (-1), 1) := by decide +kernel
theorem dX9_heap_14 : decode cX9_heap 14 = .ok (.istore_n 2, 1) := by decide +kernel
theorem dX9_heap_15 : decode cX9_heap 15 = .ok (.iload_n 1, 1) := by decide +kernel
theorem dX9_heap_16 : decode cX9_heap 16 = .ok (.iconst 1, 1) := by decide +kernel
theorem dX9_heap_17 : decode cX9_heap 17 = .ok (.isub, 1) := by decide +kernel
theorem dX9_heap_18 : decode cX9_heap 18 = .ok (.istore_n 3, 1) := by decide +kernel
theorem dX9_heap_19 : decode cX9_heap 19 = .ok (.iconst 0, 1) := by decide +kernel
theorem dX9_heap_20 : decode cX9_heap 20 = .ok (.istore 4, 2) := by decide +kernel
theorem dX9_heap_22 : decode cX9_heap 22 = .ok (.iload 4, 2) := by decide +kernel
theorem dX9_heap_24 : decode cX9_heap 24 = .ok (.bipush 40, 2) := by decide +kernel
theorem dX9_heap_26 : decode cX9_heap 26 = .ok (.if_icmp .ge 32, 3) := by decide +kernel
theorem dX9_heap_29 : decode cX9_heap 29 = .ok (.aload_n 0, 1) := by decide +kernel
theorem dX9_heap_30 : decode cX9_heap 30 = .ok (.getfield 35, 3) := by decide +kernel
theorem dX9_heap_33 : decode cX9_heap 33 = .ok (.iload 4, 2) := by decide +kernel
theorem dX9_heap_35 : decode cX9_heap 35 = .ok (.invokevirtual 215, 3) := by decide +kernel
theorem dX9_heap_38 : decode cX9_heap 38 = .ok (.istore 5, 2) := by decide +kernel
theorem dX9_heap_40 : decode cX9_heap 40 = .ok (.iload 5, 2) := by decide +kernel
theorem dX9_heap_42 : decode cX9_heap 42 = .ok (.iload_n 3, 1) := by decide +kernel
theorem dX9_heap_43 : decode cX9_heap 43 = .ok (.if_icmp .le 9, 3) := by decide +kernel
theorem dX9_heap_46 : decode cX9_heap 46 = .ok (.iload 5, 2) := by decide +kernel
theorem dX9_heap_48 : decode cX9_heap 48 = .ok (.istore_n 3, 1) := by decide +kernel
theorem dX9_heap_49 : decode cX9_heap 49 = .ok (.iload 4, 2) := by decide +kernel
theorem dX9_heap_51 : decode cX9_heap 51 = .ok (.istore_n 2, 1) := by decide +kernel
theorem dX9_heap_52 : decode cX9_heap 52 = .ok (.iinc 4 1, 3) := by decide +kernel
theorem dX9_heap_55 : decode cX9_heap 55 = .ok (.goto (-33), 3) := by decide +kernel
theorem dX9_heap_58 : decode cX9_heap 58 = .ok (.iload_n 2, 1) := by decide +kernel
theorem dX9_heap_59 : decode cX9_heap 59 = .ok (.ireturn, 1) := by decide +kernel
theorem dX9_heaped_0 : decode cX9_heaped 0 = .ok (.iload_n 1, 1) := by decide +kernel
theorem dX9_heaped_1 : decode cX9_heaped 1 = .ok (.bipush 40, 2) := by decide +kernel
theorem dX9_heaped_3 : decode cX9_heaped 3 = .ok (.invokestatic 85, 3) := by decide +kernel
theorem dX9_heaped_6 : decode cX9_heaped 6 = .ok (.ifCond .eq 14, 3) := by decide +kernel
theorem dX9_heaped_9 : decode cX9_heaped 9 = .ok (.aload_n 0, 1) := by decide +kernel
theorem dX9_heaped_10 : decode cX9_heaped 10 = .ok (.getfield 35, 3) := by decide +kernel
theorem dX9_heaped_13 : decode cX9_heaped 13 = .ok (.iload_n 1, 1) := by decide +kernel
theorem dX9_heaped_14 : decode cX9_heaped 14 = .ok (.invokevirtual 215, 3) := by decide +kernel
theorem dX9_heaped_17 : decode cX9_heaped 17 = .ok (.goto 4, 3) := by decide +kernel
theorem dX9_heaped_20 : decode cX9_heaped 20 = .ok (.iconst (-1), 1) := by decide +kernel
theorem dX9_heaped_21 : decode cX9_heaped 21 = .ok (.ireturn, 1) := by decide +kernel
theorem dX9_again_0 : decode cX9_again 0 = .ok (.iconst 0, 1) := by decide +kernel
theorem dX9_again_1 : decode cX9_again 1 = .ok (.istore_n 1, 1) := by decide +kernel
theorem dX9_again_2 : decode cX9_again 2 = .ok (.iconst 0, 1) := by decide +kernel
theorem dX9_again_3 : decode cX9_again 3 = .ok (.istore_n 2, 1) := by decide +kernel
theorem dX9_again_4 : decode cX9_again 4 = .ok (.iload_n 2, 1) := by decide +kernel
theorem dX9_again_5 : decode cX9_again 5 = .ok (.aload_n 0, 1) := by decide +kernel
theorem dX9_again_6 : decode cX9_again 6 = .ok (.getfield 35, 3) := by decide +kernel
theorem dX9_again_9 : decode cX9_again 9 = .ok (.getfield 90, 3) := by decide +kernel
theorem dX9_again_12 : decode cX9_again 12 = .ok (.if_icmp .ge 28, 3) := by decide +kernel
theorem dX9_again_15 : decode cX9_again 15 = .ok (.aload_n 0, 1) := by decide +kernel
theorem dX9_again_16 : decode cX9_again 16 = .ok (.aload_n 0, 1) := by decide +kernel
theorem dX9_again_17 : decode cX9_again 17 = .ok (.getfield 35, 3) := by decide +kernel
theorem dX9_again_20 : decode cX9_again 20 = .ok (.getfield 197, 3) := by decide +kernel
theorem dX9_again_23 : decode cX9_again 23 = .ok (.iload_n 2, 1) := by decide +kernel
theorem dX9_again_24 : decode cX9_again 24 = .ok (.aaload, 1) := by decide +kernel
theorem dX9_again_25 : decode cX9_again 25 = .ok (.invokevirtual 218, 3) := by decide +kernel
theorem dX9_again_28 : decode cX9_again 28 = .ok (.ifCond .eq 6, 3) := by decide +kernel
theorem dX9_again_31 : decode cX9_again 31 = .ok (.iinc 1 1, 3) := by decide +kernel
theorem dX9_again_34 : decode cX9_again 34 = .ok (.iinc 2 1, 3) := by decide +kernel
theorem dX9_again_37 : decode cX9_again 37 = .ok (.goto (-33), 3) := by decide +kernel
theorem dX9_again_40 : decode cX9_again 40 = .ok (.iload_n 1, 1) := by decide +kernel
theorem dX9_again_41 : decode cX9_again 41 = .ok (.ireturn, 1) := by decide +kernel
theorem dX9_differs_0 : decode cX9_differs 0 = .ok (.iconst 0, 1) := by decide +kernel
theorem dX9_differs_1 : decode cX9_differs 1 = .ok (.istore_n 2, 1) := by decide +kernel
theorem dX9_differs_2 : decode cX9_differs 2 = .ok (.iconst 0, 1) := by decide +kernel
theorem dX9_differs_3 : decode cX9_differs 3 = .ok (.istore_n 3, 1) := by decide +kernel
theorem dX9_differs_4 : decode cX9_differs 4 = .ok (.iload_n 3, 1) := by decide +kernel
theorem dX9_differs_5 : decode cX9_differs 5 = .ok (.aload_n 0, 1) := by decide +kernel
theorem dX9_differs_6 : decode cX9_differs 6 = .ok (.getfield 35, 3) := by decide +kernel
theorem dX9_differs_9 : decode cX9_differs 9 = .ok (.getfield 90, 3) := by decide +kernel
theorem dX9_differs_12 : decode cX9_differs 12 = .ok (.if_icmp .ge 35, 3) := by decide +kernel
theorem dX9_differs_15 : decode cX9_differs 15 = .ok (.aload_n 0, 1) := by decide +kernel
theorem dX9_differs_16 : decode cX9_differs 16 = .ok (.aload_n 0, 1) := by decide +kernel
theorem dX9_differs_17 : decode cX9_differs 17 = .ok (.getfield 35, 3) := by decide +kernel
theorem dX9_differs_20 : decode cX9_differs 20 = .ok (.getfield 197, 3) := by decide +kernel
theorem dX9_differs_23 : decode cX9_differs 23 = .ok (.iload_n 3, 1) := by decide +kernel
theorem dX9_differs_24 : decode cX9_differs 24 = .ok (.aaload, 1) := by decide +kernel
theorem dX9_differs_25 : decode cX9_differs 25 = .ok (.invokevirtual 218, 3) := by decide +kernel
theorem dX9_differs_28 : decode cX9_differs 28 = .ok (.ifCond .eq 13, 3) := by decide +kernel
theorem dX9_differs_31 : decode cX9_differs 31 = .ok (.iload_n 2, 1) := by decide +kernel
theorem dX9_differs_32 : decode cX9_differs 32 = .ok (.iload_n 1, 1) := by decide +kernel
theorem dX9_differs_33 : decode cX9_differs 33 = .ok (.if_icmp .ne 5, 3) := by decide +kernel
theorem dX9_differs_36 : decode cX9_differs 36 = .ok (.iload_n 3, 1) := by decide +kernel
theorem dX9_differs_37 : decode cX9_differs 37 = .ok (.ireturn, 1) := by decide +kernel
theorem dX9_differs_38 : decode cX9_differs 38 = .ok (.iinc 2 1, 3) := by decide +kernel
theorem dX9_differs_41 : decode cX9_differs 41 = .ok (.iinc 3 1, 3) := by decide +kernel
theorem dX9_differs_44 : decode cX9_differs 44 = .ok (.goto (-40), 3) := by decide +kernel
theorem dX9_differs_47 : decode cX9_differs 47 = .ok (.iconst (-1), 1) := by decide +kernel
theorem dX9_differs_48 : decode cX9_differs 48 = .ok (.ireturn, 1) := by decide +kernel
theorem dX9_count_0 : decode cX9_count 0 = .ok (.iload_n 1, 1) := by decide +kernel
theorem dX9_count_1 : decode cX9_count 1 = .ok (.tableswitch 90 0 5 #[39, 47, 55, 63, 71, 79], 39) := by decide +kernel
theorem dX9_count_40 : decode cX9_count 40 = .ok (.aload_n 0, 1) := by decide +kernel
theorem dX9_count_41 : decode cX9_count 41 = .ok (.getfield 35, 3) := by decide +kernel
theorem dX9_count_44 : decode cX9_count 44 = .ok (.getfield 90, 3) := by decide +kernel
theorem dX9_count_47 : decode cX9_count 47 = .ok (.ireturn, 1) := by decide +kernel
theorem dX9_count_48 : decode cX9_count 48 = .ok (.aload_n 0, 1) := by decide +kernel
theorem dX9_count_49 : decode cX9_count 49 = .ok (.getfield 28, 3) := by decide +kernel
theorem dX9_count_52 : decode cX9_count 52 = .ok (.invokevirtual 221, 3) := by decide +kernel
theorem dX9_count_55 : decode cX9_count 55 = .ok (.ireturn, 1) := by decide +kernel
theorem dX9_count_56 : decode cX9_count 56 = .ok (.aload_n 0, 1) := by decide +kernel
theorem dX9_count_57 : decode cX9_count 57 = .ok (.getfield 28, 3) := by decide +kernel
theorem dX9_count_60 : decode cX9_count 60 = .ok (.getfield 137, 3) := by decide +kernel
theorem dX9_count_63 : decode cX9_count 63 = .ok (.ireturn, 1) := by decide +kernel
theorem dX9_count_64 : decode cX9_count 64 = .ok (.aload_n 0, 1) := by decide +kernel
theorem dX9_count_65 : decode cX9_count 65 = .ok (.getfield 42, 3) := by decide +kernel
theorem dX9_count_68 : decode cX9_count 68 = .ok (.getfield 114, 3) := by decide +kernel
theorem dX9_count_71 : decode cX9_count 71 = .ok (.ireturn, 1) := by decide +kernel
theorem dX9_count_72 : decode cX9_count 72 = .ok (.aload_n 0, 1) := by decide +kernel
theorem dX9_count_73 : decode cX9_count 73 = .ok (.getfield 10, 3) := by decide +kernel
theorem dX9_count_76 : decode cX9_count 76 = .ok (.getfield 62, 3) := by decide +kernel
theorem dX9_count_79 : decode cX9_count 79 = .ok (.ireturn, 1) := by decide +kernel
theorem dX9_count_80 : decode cX9_count 80 = .ok (.aload_n 0, 1) := by decide +kernel
theorem dX9_count_81 : decode cX9_count 81 = .ok (.getfield 58, 3) := by decide +kernel
theorem dX9_count_84 : decode cX9_count 84 = .ok (.getfield 224, 3) := by decide +kernel
theorem dX9_count_87 : decode cX9_count 87 = .ok (.invokevirtual 228, 3) := by decide +kernel
theorem dX9_count_90 : decode cX9_count 90 = .ok (.ireturn, 1) := by decide +kernel
theorem dX9_count_91 : decode cX9_count 91 = .ok (.iload_n 1, 1) := by decide +kernel
theorem dX9_count_92 : decode cX9_count 92 = .ok (.bipush 20, 2) := by decide +kernel
theorem dX9_count_94 : decode cX9_count 94 = .ok (.isub, 1) := by decide +kernel
theorem dX9_count_95 : decode cX9_count 95 = .ok (.bipush 8, 2) := by decide +kernel
theorem dX9_count_97 : decode cX9_count 97 = .ok (.invokestatic 85, 3) := by decide +kernel
theorem dX9_count_100 : decode cX9_count 100 = .ok (.ifCond .eq 17, 3) := by decide +kernel
theorem dX9_count_103 : decode cX9_count 103 = .ok (.aload_n 0, 1) := by decide +kernel
theorem dX9_count_104 : decode cX9_count 104 = .ok (.getfield 35, 3) := by decide +kernel
theorem dX9_count_107 : decode cX9_count 107 = .ok (.iload_n 1, 1) := by decide +kernel
theorem dX9_count_108 : decode cX9_count 108 = .ok (.bipush 20, 2) := by decide +kernel
theorem dX9_count_110 : decode cX9_count 110 = .ok (.isub, 1) := by decide +kernel
theorem dX9_count_111 : decode cX9_count 111 = .ok (.invokevirtual 232, 3) := by decide +kernel
theorem dX9_count_114 : decode cX9_count 114 = .ok (.goto 4, 3) := by decide +kernel
theorem dX9_count_117 : decode cX9_count 117 = .ok (.iconst (-1), 1) := by decide +kernel
theorem dX9_count_118 : decode cX9_count 118 = .ok (.ireturn, 1) := by decide +kernel
theorem dX9_isWithin_0 : decode cX9_isWithin 0 = .ok (.iload_n 0, 1) := by decide +kernel
theorem dX9_isWithin_1 : decode cX9_isWithin 1 = .ok (.ifCond .lt 12, 3) := by decide +kernel
theorem dX9_isWithin_4 : decode cX9_isWithin 4 = .ok (.iload_n 0, 1) := by decide +kernel
theorem dX9_isWithin_5 : decode cX9_isWithin 5 = .ok (.iload_n 1, 1) := by decide +kernel
theorem dX9_isWithin_6 : decode cX9_isWithin 6 = .ok (.if_icmp .ge 7, 3) := by decide +kernel
theorem dX9_isWithin_9 : decode cX9_isWithin 9 = .ok (.iconst 1, 1) := by decide +kernel
theorem dX9_isWithin_10 : decode cX9_isWithin 10 = .ok (.goto 4, 3) := by decide +kernel
theorem dX9_isWithin_13 : decode cX9_isWithin 13 = .ok (.iconst 0, 1) := by decide +kernel
theorem dX9_isWithin_14 : decode cX9_isWithin 14 = .ok (.ireturn, 1) := by decide +kernel
theorem dX9_isFading_0 : decode cX9_isFading 0 = .ok (.iconst 0, 1) := by decide +kernel
theorem dX9_isFading_1 : decode cX9_isFading 1 = .ok (.aload_n 0, 1) := by decide +kernel
theorem dX9_isFading_2 : decode cX9_isFading 2 = .ok (.getfield 35, 3) := by decide +kernel
theorem dX9_isFading_5 : decode cX9_isFading 5 = .ok (.getfield 90, 3) := by decide +kernel
theorem dX9_isFading_8 : decode cX9_isFading 8 = .ok (.iload_n 2, 1) := by decide +kernel
theorem dX9_isFading_9 : decode cX9_isFading 9 = .ok (.isub, 1) := by decide +kernel
theorem dX9_isFading_10 : decode cX9_isFading 10 = .ok (.invokestatic 235, 3) := by decide +kernel
theorem dX9_isFading_13 : decode cX9_isFading 13 = .ok (.istore_n 3, 1) := by decide +kernel
theorem dX9_isFading_14 : decode cX9_isFading 14 = .ok (.aload_n 0, 1) := by decide +kernel
theorem dX9_isFading_15 : decode cX9_isFading 15 = .ok (.getfield 35, 3) := by decide +kernel
theorem dX9_isFading_18 : decode cX9_isFading 18 = .ok (.aload_n 1, 1) := by decide +kernel
theorem dX9_isFading_19 : decode cX9_isFading 19 = .ok (.invokevirtual 194, 3) := by decide +kernel
theorem dX9_isFading_22 : decode cX9_isFading 22 = .ok (.iload_n 3, 1) := by decide +kernel
theorem dX9_isFading_23 : decode cX9_isFading 23 = .ok (.if_icmp .lt 22, 3) := by decide +kernel
theorem dX9_isFading_26 : decode cX9_isFading 26 = .ok (.aload_n 0, 1) := by decide +kernel
theorem dX9_isFading_27 : decode cX9_isFading 27 = .ok (.getfield 35, 3) := by decide +kernel
theorem dX9_isFading_30 : decode cX9_isFading 30 = .ok (.aload_n 1, 1) := by decide +kernel
theorem dX9_isFading_31 : decode cX9_isFading 31 = .ok (.invokevirtual 191, 3) := by decide +kernel
theorem dX9_isFading_34 : decode cX9_isFading 34 = .ok (.aload_n 0, 1) := by decide +kernel
theorem dX9_isFading_35 : decode cX9_isFading 35 = .ok (.getfield 35, 3) := by decide +kernel
theorem dX9_isFading_38 : decode cX9_isFading 38 = .ok (.aload_n 1, 1) := by decide +kernel
theorem dX9_isFading_39 : decode cX9_isFading 39 = .ok (.invokevirtual 188, 3) := by decide +kernel
theorem dX9_isFading_42 : decode cX9_isFading 42 = .ok (.if_icmp .le 7, 3) := by decide +kernel
theorem dX9_isFading_45 : decode cX9_isFading 45 = .ok (.iconst 1, 1) := by decide +kernel
theorem dX9_isFading_46 : decode cX9_isFading 46 = .ok (.goto 4, 3) := by decide +kernel
theorem dX9_isFading_49 : decode cX9_isFading 49 = .ok (.iconst 0, 1) := by decide +kernel
theorem dX9_isFading_50 : decode cX9_isFading 50 = .ok (.ireturn, 1) := by decide +kernel
theorem dX9_wouldGoElsewhere_0 : decode cX9_wouldGoElsewhere 0 = .ok (.aload_n 0, 1) := by decide +kernel
theorem dX9_wouldGoElsewhere_1 : decode cX9_wouldGoElsewhere 1 = .ok (.getfield 28, 3) := by decide +kernel
theorem dX9_wouldGoElsewhere_4 : decode cX9_wouldGoElsewhere 4 = .ok (.aload_n 1, 1) := by decide +kernel
theorem dX9_wouldGoElsewhere_5 : decode cX9_wouldGoElsewhere 5 = .ok (.invokevirtual 98, 3) := by decide +kernel
theorem dX9_wouldGoElsewhere_8 : decode cX9_wouldGoElsewhere 8 = .ok (.astore_n 2, 1) := by decide +kernel
theorem dX9_wouldGoElsewhere_9 : decode cX9_wouldGoElsewhere 9 = .ok (.aload_n 2, 1) := by decide +kernel
theorem dX9_wouldGoElsewhere_10 : decode cX9_wouldGoElsewhere 10 = .ok (.ifnonnull 7, 3) := by decide +kernel
theorem dX9_wouldGoElsewhere_13 : decode cX9_wouldGoElsewhere 13 = .ok (.iconst 0, 1) := by decide +kernel
theorem dX9_wouldGoElsewhere_14 : decode cX9_wouldGoElsewhere 14 = .ok (.goto 7, 3) := by decide +kernel
theorem dX9_wouldGoElsewhere_17 : decode cX9_wouldGoElsewhere 17 = .ok (.aload_n 2, 1) := by decide +kernel
theorem dX9_wouldGoElsewhere_18 : decode cX9_wouldGoElsewhere 18 = .ok (.getfield 173, 3) := by decide +kernel
theorem dX9_wouldGoElsewhere_21 : decode cX9_wouldGoElsewhere 21 = .ok (.istore_n 3, 1) := by decide +kernel
theorem dX9_wouldGoElsewhere_22 : decode cX9_wouldGoElsewhere 22 = .ok (.iload_n 3, 1) := by decide +kernel
theorem dX9_wouldGoElsewhere_23 : decode cX9_wouldGoElsewhere 23 = .ok (.aload_n 1, 1) := by decide +kernel
theorem dX9_wouldGoElsewhere_24 : decode cX9_wouldGoElsewhere 24 = .ok (.getfield 209, 3) := by decide +kernel
theorem dX9_wouldGoElsewhere_27 : decode cX9_wouldGoElsewhere 27 = .ok (.if_icmp .eq 7, 3) := by decide +kernel
theorem dX9_wouldGoElsewhere_30 : decode cX9_wouldGoElsewhere 30 = .ok (.iconst 1, 1) := by decide +kernel
theorem dX9_wouldGoElsewhere_31 : decode cX9_wouldGoElsewhere 31 = .ok (.goto 4, 3) := by decide +kernel
theorem dX9_wouldGoElsewhere_34 : decode cX9_wouldGoElsewhere 34 = .ok (.iconst 0, 1) := by decide +kernel
theorem dX9_wouldGoElsewhere_35 : decode cX9_wouldGoElsewhere 35 = .ok (.ireturn, 1) := by decide +kernel

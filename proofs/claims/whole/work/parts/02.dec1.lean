theorem dX1_perhapsNot_83 : decode cX1_perhapsNot 83 = .ok (.istore_n 2, 1) := by decide +kernel
theorem dX1_perhapsNot_84 : decode cX1_perhapsNot 84 = .ok (.aload_n 0, 1) := by decide +kernel
theorem dX1_perhapsNot_85 : decode cX1_perhapsNot 85 = .ok (.invokevirtual 28, 3) := by decide +kernel
theorem dX1_perhapsNot_88 : decode cX1_perhapsNot 88 = .ok (.aload_n 0, 1) := by decide +kernel
theorem dX1_perhapsNot_89 : decode cX1_perhapsNot 89 = .ok (.iconst 2, 1) := by decide +kernel
theorem dX1_perhapsNot_90 : decode cX1_perhapsNot 90 = .ok (.iload_n 1, 1) := by decide +kernel
theorem dX1_perhapsNot_91 : decode cX1_perhapsNot 91 = .ok (.invokevirtual 35, 3) := by decide +kernel
theorem dX1_perhapsNot_94 : decode cX1_perhapsNot 94 = .ok (.ifCond .eq 15, 3) := by decide +kernel
theorem dX1_perhapsNot_97 : decode cX1_perhapsNot 97 = .ok (.aload_n 0, 1) := by decide +kernel
theorem dX1_perhapsNot_98 : decode cX1_perhapsNot 98 = .ok (.iload_n 2, 1) := by decide +kernel
theorem dX1_perhapsNot_99 : decode cX1_perhapsNot 99 = .ok (.invokevirtual 59, 3) := by decide +kernel
theorem dX1_perhapsNot_102 : decode cX1_perhapsNot 102 = .ok (.ifCond .eq 7, 3) := by decide +kernel
theorem dX1_perhapsNot_105 : decode cX1_perhapsNot 105 = .ok (.iconst 1, 1) := by decide +kernel
theorem dX1_perhapsNot_106 : decode cX1_perhapsNot 106 = .ok (.goto 4, 3) := by decide +kernel
theorem dX1_perhapsNot_109 : decode cX1_perhapsNot 109 = .ok (.iconst 0, 1) := by decide +kernel
theorem dX1_perhapsNot_110 : decode cX1_perhapsNot 110 = .ok (.ireturn, 1) := by decide +kernel
theorem dX1_put_0 : decode cX1_put 0 = .ok (.aload_n 0, 1) := by decide +kernel
theorem dX1_put_1 : decode cX1_put 1 = .ok (.getfield 25, 3) := by decide +kernel
theorem dX1_put_4 : decode cX1_put 4 = .ok (.sipush 160, 3) := by decide +kernel
theorem dX1_put_7 : decode cX1_put 7 = .ok (.if_icmp .lt 5, 3) := by decide +kernel
theorem dX1_put_10 : decode cX1_put 10 = .ok (.iconst 0, 1) := by decide +kernel
theorem dX1_put_11 : decode cX1_put 11 = .ok (.ireturn, 1) := by decide +kernel
theorem dX1_put_12 : decode cX1_put 12 = .ok (.aload_n 0, 1) := by decide +kernel
theorem dX1_put_13 : decode cX1_put 13 = .ok (.getfield 15, 3) := by decide +kernel
theorem dX1_put_16 : decode cX1_put 16 = .ok (.aload_n 0, 1) := by decide +kernel
theorem dX1_put_17 : decode cX1_put 17 = .ok (.getfield 25, 3) := by decide +kernel
theorem dX1_put_20 : decode cX1_put 20 = .ok (.iload_n 1, 1) := by decide +kernel
theorem dX1_put_21 : decode cX1_put 21 = .ok (.iastore, 1) := by decide +kernel
theorem dX1_put_22 : decode cX1_put 22 = .ok (.aload_n 0, 1) := by decide +kernel
theorem dX1_put_23 : decode cX1_put 23 = .ok (.dup, 1) := by decide +kernel
theorem dX1_put_24 : decode cX1_put 24 = .ok (.getfield 25, 3) := by decide +kernel
theorem dX1_put_27 : decode cX1_put 27 = .ok (.iconst 1, 1) := by decide +kernel
theorem dX1_put_28 : decode cX1_put 28 = .ok (.iadd, 1) := by decide +kernel
theorem dX1_put_29 : decode cX1_put 29 = .ok (.putfield 25, 3) := by decide +kernel
theorem dX1_put_32 : decode cX1_put 32 = .ok (.iconst 1, 1) := by decide +kernel
theorem dX1_put_33 : decode cX1_put 33 = .ok (.ireturn, 1) := by decide +kernel
theorem dX1_reads_0 : decode cX1_reads 0 = .ok (.aload_n 0, 1) := by decide +kernel
theorem dX1_reads_1 : decode cX1_reads 1 = .ok (.iconst 0, 1) := by decide +kernel
theorem dX1_reads_2 : decode cX1_reads 2 = .ok (.putfield 21, 3) := by decide +kernel
theorem dX1_reads_5 : decode cX1_reads 5 = .ok (.aload_n 0, 1) := by decide +kernel
theorem dX1_reads_6 : decode cX1_reads 6 = .ok (.iconst 0, 1) := by decide +kernel
theorem dX1_reads_7 : decode cX1_reads 7 = .ok (.putfield 25, 3) := by decide +kernel
theorem dX1_reads_10 : decode cX1_reads 10 = .ok (.aload_n 0, 1) := by decide +kernel
theorem dX1_reads_11 : decode cX1_reads 11 = .ok (.invokevirtual 28, 3) := by decide +kernel
theorem dX1_reads_14 : decode cX1_reads 14 = .ok (.iconst 0, 1) := by decide +kernel
theorem dX1_reads_15 : decode cX1_reads 15 = .ok (.istore_n 1, 1) := by decide +kernel
theorem dX1_reads_16 : decode cX1_reads 16 = .ok (.iload_n 1, 1) := by decide +kernel
theorem dX1_reads_17 : decode cX1_reads 17 = .ok (.iconst 3, 1) := by decide +kernel
theorem dX1_reads_18 : decode cX1_reads 18 = .ok (.if_icmp .ge 49, 3) := by decide +kernel
theorem dX1_reads_21 : decode cX1_reads 21 = .ok (.aload_n 0, 1) := by decide +kernel
theorem dX1_reads_22 : decode cX1_reads 22 = .ok (.iconst 4, 1) := by decide +kernel
theorem dX1_reads_23 : decode cX1_reads 23 = .ok (.iload_n 1, 1) := by decide +kernel
theorem dX1_reads_24 : decode cX1_reads 24 = .ok (.iadd, 1) := by decide +kernel
theorem dX1_reads_25 : decode cX1_reads 25 = .ok (.invokevirtual 31, 3) := by decide +kernel
theorem dX1_reads_28 : decode cX1_reads 28 = .ok (.ifCond .eq 21, 3) := by decide +kernel
theorem dX1_reads_31 : decode cX1_reads 31 = .ok (.aload_n 0, 1) := by decide +kernel
theorem dX1_reads_32 : decode cX1_reads 32 = .ok (.iconst 0, 1) := by decide +kernel
theorem dX1_reads_33 : decode cX1_reads 33 = .ok (.iconst 0, 1) := by decide +kernel
theorem dX1_reads_34 : decode cX1_reads 34 = .ok (.invokevirtual 35, 3) := by decide +kernel
theorem dX1_reads_37 : decode cX1_reads 37 = .ok (.ifCond .eq 12, 3) := by decide +kernel
theorem dX1_reads_40 : decode cX1_reads 40 = .ok (.aload_n 0, 1) := by decide +kernel
theorem dX1_reads_41 : decode cX1_reads 41 = .ok (.bipush 59, 2) := by decide +kernel
theorem dX1_reads_43 : decode cX1_reads 43 = .ok (.invokevirtual 31, 3) := by decide +kernel
theorem dX1_reads_46 : decode cX1_reads 46 = .ok (.ifCond .ne 5, 3) := by decide +kernel
theorem dX1_reads_49 : decode cX1_reads 49 = .ok (.iconst 0, 1) := by decide +kernel
theorem dX1_reads_50 : decode cX1_reads 50 = .ok (.ireturn, 1) := by decide +kernel
theorem dX1_reads_51 : decode cX1_reads 51 = .ok (.aload_n 0, 1) := by decide +kernel
theorem dX1_reads_52 : decode cX1_reads 52 = .ok (.getfield 18, 3) := by decide +kernel
theorem dX1_reads_55 : decode cX1_reads 55 = .ok (.iload_n 1, 1) := by decide +kernel
theorem dX1_reads_56 : decode cX1_reads 56 = .ok (.aload_n 0, 1) := by decide +kernel
theorem dX1_reads_57 : decode cX1_reads 57 = .ok (.getfield 25, 3) := by decide +kernel
theorem dX1_reads_60 : decode cX1_reads 60 = .ok (.iastore, 1) := by decide +kernel
theorem dX1_reads_61 : decode cX1_reads 61 = .ok (.iinc 1 1, 3) := by decide +kernel
theorem dX1_reads_64 : decode cX1_reads 64 = .ok (.goto (-48), 3) := by decide +kernel
theorem dX1_reads_67 : decode cX1_reads 67 = .ok (.aload_n 0, 1) := by decide +kernel
theorem dX1_reads_68 : decode cX1_reads 68 = .ok (.getfield 39, 3) := by decide +kernel
theorem dX1_reads_71 : decode cX1_reads 71 = .ok (.ifCond .ne 7, 3) := by decide +kernel
theorem dX1_reads_74 : decode cX1_reads 74 = .ok (.iconst 1, 1) := by decide +kernel
theorem dX1_reads_75 : decode cX1_reads 75 = .ok (.goto 4, 3) := by decide +kernel
theorem dX1_reads_78 : decode cX1_reads 78 = .ok (.iconst 0, 1) := by decide +kernel
theorem dX1_reads_79 : decode cX1_reads 79 = .ok (.ireturn, 1) := by decide +kernel
theorem dX1_single_0 : decode cX1_single 0 = .ok (.aload_n 0, 1) := by decide +kernel
theorem dX1_single_1 : decode cX1_single 1 = .ok (.getfield 39, 3) := by decide +kernel
theorem dX1_single_4 : decode cX1_single 4 = .ok (.iconst 2, 1) := by decide +kernel
theorem dX1_single_5 : decode cX1_single 5 = .ok (.if_icmp .eq 11, 3) := by decide +kernel
theorem dX1_single_8 : decode cX1_single 8 = .ok (.aload_n 0, 1) := by decide +kernel
theorem dX1_single_9 : decode cX1_single 9 = .ok (.getfield 39, 3) := by decide +kernel
theorem dX1_single_12 : decode cX1_single 12 = .ok (.iconst 3, 1) := by decide +kernel
theorem dX1_single_13 : decode cX1_single 13 = .ok (.if_icmp .ne 35, 3) := by decide +kernel
theorem dX1_single_16 : decode cX1_single 16 = .ok (.aload_n 0, 1) := by decide +kernel
theorem dX1_single_17 : decode cX1_single 17 = .ok (.getfield 39, 3) := by decide +kernel
theorem dX1_single_20 : decode cX1_single 20 = .ok (.iconst 2, 1) := by decide +kernel
theorem dX1_single_21 : decode cX1_single 21 = .ok (.if_icmp .ne 10, 3) := by decide +kernel
theorem dX1_single_24 : decode cX1_single 24 = .ok (.aload_n 0, 1) := by decide +kernel
theorem dX1_single_25 : decode cX1_single 25 = .ok (.getfield 69, 3) := by decide +kernel
theorem dX1_single_28 : decode cX1_single 28 = .ok (.goto 9, 3) := by decide +kernel
theorem dX1_single_31 : decode cX1_single 31 = .ok (.iconst (-1), 1) := by decide +kernel
theorem dX1_single_32 : decode cX1_single 32 = .ok (.aload_n 0, 1) := by decide +kernel
theorem dX1_single_33 : decode cX1_single 33 = .ok (.getfield 69, 3) := by decide +kernel
theorem dX1_single_36 : decode cX1_single 36 = .ok (.isub, 1) := by decide +kernel
theorem dX1_single_37 : decode cX1_single 37 = .ok (.istore_n 2, 1) := by decide +kernel
theorem dX1_single_38 : decode cX1_single 38 = .ok (.aload_n 0, 1) := by decide +kernel
theorem dX1_single_39 : decode cX1_single 39 = .ok (.invokevirtual 28, 3) := by decide +kernel
theorem dX1_single_42 : decode cX1_single 42 = .ok (.aload_n 0, 1) := by decide +kernel
theorem dX1_single_43 : decode cX1_single 43 = .ok (.iload_n 2, 1) := by decide +kernel
theorem dX1_single_44 : decode cX1_single 44 = .ok (.invokevirtual 59, 3) := by decide +kernel
theorem dX1_single_47 : decode cX1_single 47 = .ok (.ireturn, 1) := by decide +kernel
theorem dX1_single_48 : decode cX1_single 48 = .ok (.aload_n 0, 1) := by decide +kernel
theorem dX1_single_49 : decode cX1_single 49 = .ok (.getfield 39, 3) := by decide +kernel
theorem dX1_single_52 : decode cX1_single 52 = .ok (.bipush 45, 2) := by decide +kernel
theorem dX1_single_54 : decode cX1_single 54 = .ok (.if_icmp .eq 12, 3) := by decide +kernel
theorem dX1_single_57 : decode cX1_single 57 = .ok (.aload_n 0, 1) := by decide +kernel
theorem dX1_single_58 : decode cX1_single 58 = .ok (.getfield 39, 3) := by decide +kernel
theorem dX1_single_61 : decode cX1_single 61 = .ok (.bipush 40, 2) := by decide +kernel
theorem dX1_single_63 : decode cX1_single 63 = .ok (.if_icmp .ne 8, 3) := by decide +kernel
theorem dX1_single_66 : decode cX1_single 66 = .ok (.iload_n 1, 1) := by decide +kernel
theorem dX1_single_67 : decode cX1_single 67 = .ok (.iconst 5, 1) := by decide +kernel
theorem dX1_single_68 : decode cX1_single 68 = .ok (.if_icmp .lt 5, 3) := by decide +kernel
theorem dX1_single_71 : decode cX1_single 71 = .ok (.iconst 0, 1) := by decide +kernel
theorem dX1_single_72 : decode cX1_single 72 = .ok (.ireturn, 1) := by decide +kernel
theorem dX1_single_73 : decode cX1_single 73 = .ok (.aload_n 0, 1) := by decide +kernel
theorem dX1_single_74 : decode cX1_single 74 = .ok (.getfield 39, 3) := by decide +kernel
theorem dX1_single_77 : decode cX1_single 77 = .ok (.bipush 45, 2) := by decide +kernel
theorem dX1_single_79 : decode cX1_single 79 = .ok (.if_icmp .ne 7, 3) := by decide +kernel
theorem dX1_single_82 : decode cX1_single 82 = .ok (.iconst 1, 1) := by decide +kernel
theorem dX1_single_83 : decode cX1_single 83 = .ok (.goto 4, 3) := by decide +kernel
theorem dX1_single_86 : decode cX1_single 86 = .ok (.iconst 0, 1) := by decide +kernel
theorem dX1_single_87 : decode cX1_single 87 = .ok (.istore_n 2, 1) := by decide +kernel
theorem dX1_single_88 : decode cX1_single 88 = .ok (.aload_n 0, 1) := by decide +kernel
theorem dX1_single_89 : decode cX1_single 89 = .ok (.invokevirtual 28, 3) := by decide +kernel
theorem dX1_single_92 : decode cX1_single 92 = .ok (.iload_n 2, 1) := by decide +kernel
theorem dX1_single_93 : decode cX1_single 93 = .ok (.ifCond .eq 28, 3) := by decide +kernel
theorem dX1_single_96 : decode cX1_single 96 = .ok (.aload_n 0, 1) := by decide +kernel
theorem dX1_single_97 : decode cX1_single 97 = .ok (.iload_n 1, 1) := by decide +kernel
theorem dX1_single_98 : decode cX1_single 98 = .ok (.iconst 1, 1) := by decide +kernel
theorem dX1_single_99 : decode cX1_single 99 = .ok (.iadd, 1) := by decide +kernel
theorem dX1_single_100 : decode cX1_single 100 = .ok (.invokevirtual 56, 3) := by decide +kernel
theorem dX1_single_103 : decode cX1_single 103 = .ok (.ifCond .eq 16, 3) := by decide +kernel
theorem dX1_single_106 : decode cX1_single 106 = .ok (.aload_n 0, 1) := by decide +kernel
theorem dX1_single_107 : decode cX1_single 107 = .ok (.bipush (-15), 2) := by decide +kernel
theorem dX1_single_109 : decode cX1_single 109 = .ok (.invokevirtual 59, 3) := by decide +kernel
theorem dX1_single_112 : decode cX1_single 112 = .ok (.ifCond .eq 7, 3) := by decide +kernel
theorem dX1_single_115 : decode cX1_single 115 = .ok (.iconst 1, 1) := by decide +kernel
theorem dX1_single_116 : decode cX1_single 116 = .ok (.goto 4, 3) := by decide +kernel
theorem dX1_single_119 : decode cX1_single 119 = .ok (.iconst 0, 1) := by decide +kernel
theorem dX1_single_120 : decode cX1_single 120 = .ok (.ireturn, 1) := by decide +kernel
theorem dX1_single_121 : decode cX1_single 121 = .ok (.aload_n 0, 1) := by decide +kernel
theorem dX1_single_122 : decode cX1_single 122 = .ok (.iconst 0, 1) := by decide +kernel
theorem dX1_single_123 : decode cX1_single 123 = .ok (.iload_n 1, 1) := by decide +kernel
theorem dX1_single_124 : decode cX1_single 124 = .ok (.iconst 1, 1) := by decide +kernel
theorem dX1_single_125 : decode cX1_single 125 = .ok (.iadd, 1) := by decide +kernel
theorem dX1_single_126 : decode cX1_single 126 = .ok (.invokevirtual 35, 3) := by decide +kernel
theorem dX1_single_129 : decode cX1_single 129 = .ok (.ifCond .eq 12, 3) := by decide +kernel
theorem dX1_single_132 : decode cX1_single 132 = .ok (.aload_n 0, 1) := by decide +kernel
theorem dX1_single_133 : decode cX1_single 133 = .ok (.getfield 39, 3) := by decide +kernel
theorem dX1_single_136 : decode cX1_single 136 = .ok (.bipush 41, 2) := by decide +kernel
theorem dX1_single_138 : decode cX1_single 138 = .ok (.if_icmp .eq 5, 3) := by decide +kernel
theorem dX1_single_141 : decode cX1_single 141 = .ok (.iconst 0, 1) := by decide +kernel
theorem dX1_single_142 : decode cX1_single 142 = .ok (.ireturn, 1) := by decide +kernel
theorem dX1_single_143 : decode cX1_single 143 = .ok (.aload_n 0, 1) := by decide +kernel
theorem dX1_single_144 : decode cX1_single 144 = .ok (.invokevirtual 28, 3) := by decide +kernel
theorem dX1_single_147 : decode cX1_single 147 = .ok (.iconst 1, 1) := by decide +kernel
theorem dX1_single_148 : decode cX1_single 148 = .ok (.ireturn, 1) := by decide +kernel
theorem dX1_step_0 : decode cX1_step 0 = .ok (.aload_n 0, 1) := by decide +kernel
theorem dX1_step_1 : decode cX1_step 1 = .ok (.getfield 21, 3) := by decide +kernel
theorem dX1_step_4 : decode cX1_step 4 = .ok (.aload_n 0, 1) := by decide +kernel
theorem dX1_step_5 : decode cX1_step 5 = .ok (.getfield 72, 3) := by decide +kernel
theorem dX1_step_8 : decode cX1_step 8 = .ok (.if_icmp .ge 44, 3) := by decide +kernel
theorem dX1_step_11 : decode cX1_step 11 = .ok (.aload_n 0, 1) := by decide +kernel
theorem dX1_step_12 : decode cX1_step 12 = .ok (.getfield 9, 3) := by decide +kernel
theorem dX1_step_15 : decode cX1_step 15 = .ok (.aload_n 0, 1) := by decide +kernel
theorem dX1_step_16 : decode cX1_step 16 = .ok (.getfield 21, 3) := by decide +kernel
theorem dX1_step_19 : decode cX1_step 19 = .ok (.iaload, 1) := by decide +kernel
theorem dX1_step_20 : decode cX1_step 20 = .ok (.bipush 32, 2) := by decide +kernel
theorem dX1_step_22 : decode cX1_step 22 = .ok (.if_icmp .eq 17, 3) := by decide +kernel
theorem dX1_step_25 : decode cX1_step 25 = .ok (.aload_n 0, 1) := by decide +kernel
theorem dX1_step_26 : decode cX1_step 26 = .ok (.getfield 9, 3) := by decide +kernel
theorem dX1_step_29 : decode cX1_step 29 = .ok (.aload_n 0, 1) := by decide +kernel
theorem dX1_step_30 : decode cX1_step 30 = .ok (.getfield 21, 3) := by decide +kernel
theorem dX1_step_33 : decode cX1_step 33 = .ok (.iaload, 1) := by decide +kernel
theorem dX1_step_34 : decode cX1_step 34 = .ok (.bipush 10, 2) := by decide +kernel
theorem dX1_step_36 : decode cX1_step 36 = .ok (.if_icmp .ne 16, 3) := by decide +kernel
theorem dX1_step_39 : decode cX1_step 39 = .ok (.aload_n 0, 1) := by decide +kernel
theorem dX1_step_40 : decode cX1_step 40 = .ok (.dup, 1) := by decide +kernel
theorem dX1_step_41 : decode cX1_step 41 = .ok (.getfield 21, 3) := by decide +kernel
theorem dX1_step_44 : decode cX1_step 44 = .ok (.iconst 1, 1) := by decide +kernel
theorem dX1_step_45 : decode cX1_step 45 = .ok (.iadd, 1) := by decide +kernel
theorem dX1_step_46 : decode cX1_step 46 = .ok (.putfield 21, 3) := by decide +kernel
theorem dX1_step_49 : decode cX1_step 49 = .ok (.goto (-49), 3) := by decide +kernel
theorem dX1_step_52 : decode cX1_step 52 = .ok (.aload_n 0, 1) := by decide +kernel
theorem dX1_step_53 : decode cX1_step 53 = .ok (.aload_n 0, 1) := by decide +kernel
theorem dX1_step_54 : decode cX1_step 54 = .ok (.getfield 21, 3) := by decide +kernel
theorem dX1_step_57 : decode cX1_step 57 = .ok (.putfield 75, 3) := by decide +kernel
theorem dX1_step_60 : decode cX1_step 60 = .ok (.aload_n 0, 1) := by decide +kernel
theorem dX1_step_61 : decode cX1_step 61 = .ok (.getfield 21, 3) := by decide +kernel
theorem dX1_step_64 : decode cX1_step 64 = .ok (.aload_n 0, 1) := by decide +kernel
theorem dX1_step_65 : decode cX1_step 65 = .ok (.getfield 72, 3) := by decide +kernel
theorem dX1_step_68 : decode cX1_step 68 = .ok (.if_icmp .lt 9, 3) := by decide +kernel
theorem dX1_step_71 : decode cX1_step 71 = .ok (.aload_n 0, 1) := by decide +kernel
theorem dX1_step_72 : decode cX1_step 72 = .ok (.iconst 0, 1) := by decide +kernel
theorem dX1_step_73 : decode cX1_step 73 = .ok (.putfield 39, 3) := by decide +kernel
theorem dX1_step_76 : decode cX1_step 76 = .ok (.return_, 1) := by decide +kernel
theorem dX1_step_77 : decode cX1_step 77 = .ok (.aload_n 0, 1) := by decide +kernel
theorem dX1_step_78 : decode cX1_step 78 = .ok (.getfield 9, 3) := by decide +kernel
theorem dX1_step_81 : decode cX1_step 81 = .ok (.aload_n 0, 1) := by decide +kernel
theorem dX1_step_82 : decode cX1_step 82 = .ok (.getfield 21, 3) := by decide +kernel
theorem dX1_step_85 : decode cX1_step 85 = .ok (.iaload, 1) := by decide +kernel
theorem dX1_step_86 : decode cX1_step 86 = .ok (.istore_n 1, 1) := by decide +kernel
theorem dX1_step_87 : decode cX1_step 87 = .ok (.iload_n 1, 1) := by decide +kernel
theorem dX1_step_88 : decode cX1_step 88 = .ok (.bipush 97, 2) := by decide +kernel
theorem dX1_step_90 : decode cX1_step 90 = .ok (.if_icmp .lt 16, 3) := by decide +kernel
theorem dX1_step_93 : decode cX1_step 93 = .ok (.iload_n 1, 1) := by decide +kernel
theorem dX1_step_94 : decode cX1_step 94 = .ok (.bipush 122, 2) := by decide +kernel
theorem dX1_step_96 : decode cX1_step 96 = .ok (.if_icmp .gt 10, 3) := by decide +kernel
theorem dX1_step_99 : decode cX1_step 99 = .ok (.aload_n 0, 1) := by decide +kernel
theorem dX1_step_100 : decode cX1_step 100 = .ok (.invokevirtual 78, 3) := by decide +kernel
theorem dX1_step_103 : decode cX1_step 103 = .ok (.goto 48, 3) := by decide +kernel
theorem dX1_step_106 : decode cX1_step 106 = .ok (.iload_n 1, 1) := by decide +kernel
theorem dX1_step_107 : decode cX1_step 107 = .ok (.bipush 48, 2) := by decide +kernel
theorem dX1_step_109 : decode cX1_step 109 = .ok (.if_icmp .lt 16, 3) := by decide +kernel
theorem dX1_step_112 : decode cX1_step 112 = .ok (.iload_n 1, 1) := by decide +kernel
theorem dX1_step_113 : decode cX1_step 113 = .ok (.bipush 57, 2) := by decide +kernel
theorem dX1_step_115 : decode cX1_step 115 = .ok (.if_icmp .gt 10, 3) := by decide +kernel
theorem dX1_step_118 : decode cX1_step 118 = .ok (.aload_n 0, 1) := by decide +kernel
theorem dX1_step_119 : decode cX1_step 119 = .ok (.invokevirtual 81, 3) := by decide +kernel
theorem dX1_step_122 : decode cX1_step 122 = .ok (.goto 29, 3) := by decide +kernel
theorem dX1_step_125 : decode cX1_step 125 = .ok (.aload_n 0, 1) := by decide +kernel
theorem dX1_step_126 : decode cX1_step 126 = .ok (.dup, 1) := by decide +kernel
theorem dX1_step_127 : decode cX1_step 127 = .ok (.getfield 21, 3) := by decide +kernel
theorem dX1_step_130 : decode cX1_step 130 = .ok (.iconst 1, 1) := by decide +kernel
theorem dX1_step_131 : decode cX1_step 131 = .ok (.iadd, 1) := by decide +kernel
theorem dX1_step_132 : decode cX1_step 132 = .ok (.putfield 21, 3) := by decide +kernel
theorem dX1_step_135 : decode cX1_step 135 = .ok (.aload_n 0, 1) := by decide +kernel
theorem dX1_step_136 : decode cX1_step 136 = .ok (.iload_n 1, 1) := by decide +kernel
theorem dX1_step_137 : decode cX1_step 137 = .ok (.invokestatic 84, 3) := by decide +kernel
theorem dX1_step_140 : decode cX1_step 140 = .ok (.ifCond .eq 7, 3) := by decide +kernel
theorem dX1_step_143 : decode cX1_step 143 = .ok (.iload_n 1, 1) := by decide +kernel
theorem dX1_step_144 : decode cX1_step 144 = .ok (.goto 4, 3) := by decide +kernel
theorem dX1_step_147 : decode cX1_step 147 = .ok (.iconst 1, 1) := by decide +kernel
theorem dX1_step_148 : decode cX1_step 148 = .ok (.putfield 39, 3) := by decide +kernel
theorem dX1_step_151 : decode cX1_step 151 = .ok (.return_, 1) := by decide +kernel
theorem dX1_stepOverDigits_0 : decode cX1_stepOverDigits 0 = .ok (.aload_n 0, 1) := by decide +kernel
theorem dX1_stepOverDigits_1 : decode cX1_stepOverDigits 1 = .ok (.iconst 0, 1) := by decide +kernel
theorem dX1_stepOverDigits_2 : decode cX1_stepOverDigits 2 = .ok (.putfield 69, 3) := by decide +kernel
theorem dX1_stepOverDigits_5 : decode cX1_stepOverDigits 5 = .ok (.aload_n 0, 1) := by decide +kernel
theorem dX1_stepOverDigits_6 : decode cX1_stepOverDigits 6 = .ok (.getfield 21, 3) := by decide +kernel
theorem dX1_stepOverDigits_9 : decode cX1_stepOverDigits 9 = .ok (.aload_n 0, 1) := by decide +kernel
theorem dX1_stepOverDigits_10 : decode cX1_stepOverDigits 10 = .ok (.getfield 72, 3) := by decide +kernel
theorem dX1_stepOverDigits_13 : decode cX1_stepOverDigits 13 = .ok (.if_icmp .ge 68, 3) := by decide +kernel
theorem dX1_stepOverDigits_16 : decode cX1_stepOverDigits 16 = .ok (.aload_n 0, 1) := by decide +kernel
theorem dX1_stepOverDigits_17 : decode cX1_stepOverDigits 17 = .ok (.getfield 9, 3) := by decide +kernel
theorem dX1_stepOverDigits_20 : decode cX1_stepOverDigits 20 = .ok (.aload_n 0, 1) := by decide +kernel
theorem dX1_stepOverDigits_21 : decode cX1_stepOverDigits 21 = .ok (.getfield 21, 3) := by decide +kernel
theorem dX1_stepOverDigits_24 : decode cX1_stepOverDigits 24 = .ok (.iaload, 1) := by decide +kernel
theorem dX1_stepOverDigits_25 : decode cX1_stepOverDigits 25 = .ok (.bipush 48, 2) := by decide +kernel
theorem dX1_stepOverDigits_27 : decode cX1_stepOverDigits 27 = .ok (.if_icmp .lt 54, 3) := by decide +kernel
theorem dX1_stepOverDigits_30 : decode cX1_stepOverDigits 30 = .ok (.aload_n 0, 1) := by decide +kernel
theorem dX1_stepOverDigits_31 : decode cX1_stepOverDigits 31 = .ok (.getfield 9, 3) := by decide +kernel
theorem dX1_stepOverDigits_34 : decode cX1_stepOverDigits 34 = .ok (.aload_n 0, 1) := by decide +kernel
theorem dX1_stepOverDigits_35 : decode cX1_stepOverDigits 35 = .ok (.getfield 21, 3) := by decide +kernel
theorem dX1_stepOverDigits_38 : decode cX1_stepOverDigits 38 = .ok (.iaload, 1) := by decide +kernel
theorem dX1_stepOverDigits_39 : decode cX1_stepOverDigits 39 = .ok (.bipush 57, 2) := by decide +kernel
theorem dX1_stepOverDigits_41 : decode cX1_stepOverDigits 41 = .ok (.if_icmp .gt 40, 3) := by decide +kernel
theorem dX1_stepOverDigits_44 : decode cX1_stepOverDigits 44 = .ok (.aload_n 0, 1) := by decide +kernel
theorem dX1_stepOverDigits_45 : decode cX1_stepOverDigits 45 = .ok (.aload_n 0, 1) := by decide +kernel
theorem dX1_stepOverDigits_46 : decode cX1_stepOverDigits 46 = .ok (.getfield 69, 3) := by decide +kernel
theorem dX1_stepOverDigits_49 : decode cX1_stepOverDigits 49 = .ok (.bipush 10, 2) := by decide +kernel
theorem dX1_stepOverDigits_51 : decode cX1_stepOverDigits 51 = .ok (.imul, 1) := by decide +kernel
theorem dX1_stepOverDigits_52 : decode cX1_stepOverDigits 52 = .ok (.aload_n 0, 1) := by decide +kernel
theorem dX1_stepOverDigits_53 : decode cX1_stepOverDigits 53 = .ok (.getfield 9, 3) := by decide +kernel
theorem dX1_stepOverDigits_56 : decode cX1_stepOverDigits 56 = .ok (.aload_n 0, 1) := by decide +kernel
theorem dX1_stepOverDigits_57 : decode cX1_stepOverDigits 57 = .ok (.getfield 21, 3) := by decide +kernel
theorem dX1_stepOverDigits_60 : decode cX1_stepOverDigits 60 = .ok (.iaload, 1) := by decide +kernel
theorem dX1_stepOverDigits_61 : decode cX1_stepOverDigits 61 = .ok (.iadd, 1) := by decide +kernel
theorem dX1_stepOverDigits_62 : decode cX1_stepOverDigits 62 = .ok (.bipush 48, 2) := by decide +kernel
theorem dX1_stepOverDigits_64 : decode cX1_stepOverDigits 64 = .ok (.isub, 1) := by decide +kernel
theorem dX1_stepOverDigits_65 : decode cX1_stepOverDigits 65 = .ok (.putfield 69, 3) := by decide +kernel
theorem dX1_stepOverDigits_68 : decode cX1_stepOverDigits 68 = .ok (.aload_n 0, 1) := by decide +kernel
theorem dX1_stepOverDigits_69 : decode cX1_stepOverDigits 69 = .ok (.dup, 1) := by decide +kernel
theorem dX1_stepOverDigits_70 : decode cX1_stepOverDigits 70 = .ok (.getfield 21, 3) := by decide +kernel
theorem dX1_stepOverDigits_73 : decode cX1_stepOverDigits 73 = .ok (.iconst 1, 1) := by decide +kernel
theorem dX1_stepOverDigits_74 : decode cX1_stepOverDigits 74 = .ok (.iadd, 1) := by decide +kernel
theorem dX1_stepOverDigits_75 : decode cX1_stepOverDigits 75 = .ok (.putfield 21, 3) := by decide +kernel
theorem dX1_stepOverDigits_78 : decode cX1_stepOverDigits 78 = .ok (.goto (-73), 3) := by decide +kernel
theorem dX1_stepOverDigits_81 : decode cX1_stepOverDigits 81 = .ok (.aload_n 0, 1) := by decide +kernel
theorem dX1_stepOverDigits_82 : decode cX1_stepOverDigits 82 = .ok (.aload_n 0, 1) := by decide +kernel
theorem dX1_stepOverDigits_83 : decode cX1_stepOverDigits 83 = .ok (.getfield 21, 3) := by decide +kernel
theorem dX1_stepOverDigits_86 : decode cX1_stepOverDigits 86 = .ok (.aload_n 0, 1) := by decide +kernel
theorem dX1_stepOverDigits_87 : decode cX1_stepOverDigits 87 = .ok (.getfield 75, 3) := by decide +kernel
theorem dX1_stepOverDigits_90 : decode cX1_stepOverDigits 90 = .ok (.isub, 1) := by decide +kernel
theorem dX1_stepOverDigits_91 : decode cX1_stepOverDigits 91 = .ok (.iconst 4, 1) := by decide +kernel
theorem dX1_stepOverDigits_92 : decode cX1_stepOverDigits 92 = .ok (.if_icmp .le 7, 3) := by decide +kernel
theorem dX1_stepOverDigits_95 : decode cX1_stepOverDigits 95 = .ok (.iconst 1, 1) := by decide +kernel
theorem dX1_stepOverDigits_96 : decode cX1_stepOverDigits 96 = .ok (.goto 4, 3) := by decide +kernel
theorem dX1_stepOverDigits_99 : decode cX1_stepOverDigits 99 = .ok (.iconst 2, 1) := by decide +kernel
theorem dX1_stepOverDigits_100 : decode cX1_stepOverDigits 100 = .ok (.putfield 39, 3) := by decide +kernel
theorem dX1_stepOverDigits_103 : decode cX1_stepOverDigits 103 = .ok (.return_, 1) := by decide +kernel
theorem dX1_stepOverWord_0 : decode cX1_stepOverWord 0 = .ok (.aload_n 0, 1) := by decide +kernel
theorem dX1_stepOverWord_1 : decode cX1_stepOverWord 1 = .ok (.getfield 21, 3) := by decide +kernel
theorem dX1_stepOverWord_4 : decode cX1_stepOverWord 4 = .ok (.aload_n 0, 1) := by decide +kernel
theorem dX1_stepOverWord_5 : decode cX1_stepOverWord 5 = .ok (.getfield 72, 3) := by decide +kernel
theorem dX1_stepOverWord_8 : decode cX1_stepOverWord 8 = .ok (.if_icmp .ge 44, 3) := by decide +kernel
theorem dX1_stepOverWord_11 : decode cX1_stepOverWord 11 = .ok (.aload_n 0, 1) := by decide +kernel
theorem dX1_stepOverWord_12 : decode cX1_stepOverWord 12 = .ok (.getfield 9, 3) := by decide +kernel
theorem dX1_stepOverWord_15 : decode cX1_stepOverWord 15 = .ok (.aload_n 0, 1) := by decide +kernel
theorem dX1_stepOverWord_16 : decode cX1_stepOverWord 16 = .ok (.getfield 21, 3) := by decide +kernel
theorem dX1_stepOverWord_19 : decode cX1_stepOverWord 19 = .ok (.iaload, 1) := by decide +kernel
theorem dX1_stepOverWord_20 : decode cX1_stepOverWord 20 = .ok (.bipush 97, 2) := by decide +kernel
theorem dX1_stepOverWord_22 : decode cX1_stepOverWord 22 = .ok (.if_icmp .lt 30, 3) := by decide +kernel
theorem dX1_stepOverWord_25 : decode cX1_stepOverWord 25 = .ok (.aload_n 0, 1) := by decide +kernel
theorem dX1_stepOverWord_26 : decode cX1_stepOverWord 26 = .ok (.getfield 9, 3) := by decide +kernel
theorem dX1_stepOverWord_29 : decode cX1_stepOverWord 29 = .ok (.aload_n 0, 1) := by decide +kernel
theorem dX1_stepOverWord_30 : decode cX1_stepOverWord 30 = .ok (.getfield 21, 3) := by decide +kernel
theorem dX1_stepOverWord_33 : decode cX1_stepOverWord 33 = .ok (.iaload, 1) := by decide +kernel
theorem dX1_stepOverWord_34 : decode cX1_stepOverWord 34 = .ok (.bipush 122, 2) := by decide +kernel
theorem dX1_stepOverWord_36 : decode cX1_stepOverWord 36 = .ok (.if_icmp .gt 16, 3) := by decide +kernel
theorem dX1_stepOverWord_39 : decode cX1_stepOverWord 39 = .ok (.aload_n 0, 1) := by decide +kernel
theorem dX1_stepOverWord_40 : decode cX1_stepOverWord 40 = .ok (.dup, 1) := by decide +kernel
theorem dX1_stepOverWord_41 : decode cX1_stepOverWord 41 = .ok (.getfield 21, 3) := by decide +kernel
theorem dX1_stepOverWord_44 : decode cX1_stepOverWord 44 = .ok (.iconst 1, 1) := by decide +kernel
theorem dX1_stepOverWord_45 : decode cX1_stepOverWord 45 = .ok (.iadd, 1) := by decide +kernel
theorem dX1_stepOverWord_46 : decode cX1_stepOverWord 46 = .ok (.putfield 21, 3) := by decide +kernel
theorem dX1_stepOverWord_49 : decode cX1_stepOverWord 49 = .ok (.goto (-49), 3) := by decide +kernel
theorem dX1_stepOverWord_52 : decode cX1_stepOverWord 52 = .ok (.aload_n 0, 1) := by decide +kernel
theorem dX1_stepOverWord_53 : decode cX1_stepOverWord 53 = .ok (.iconst 1, 1) := by decide +kernel
theorem dX1_stepOverWord_54 : decode cX1_stepOverWord 54 = .ok (.putfield 39, 3) := by decide +kernel
theorem dX1_stepOverWord_57 : decode cX1_stepOverWord 57 = .ok (.iconst 0, 1) := by decide +kernel
theorem dX1_stepOverWord_58 : decode cX1_stepOverWord 58 = .ok (.istore_n 1, 1) := by decide +kernel
theorem dX1_stepOverWord_59 : decode cX1_stepOverWord 59 = .ok (.iload_n 1, 1) := by decide +kernel
theorem dX1_stepOverWord_60 : decode cX1_stepOverWord 60 = .ok (.bipush 12, 2) := by decide +kernel
theorem dX1_stepOverWord_62 : decode cX1_stepOverWord 62 = .ok (.if_icmp .ge 45, 3) := by decide +kernel
theorem dX1_stepOverWord_65 : decode cX1_stepOverWord 65 = .ok (.aload_n 0, 1) := by decide +kernel
theorem dX1_stepOverWord_66 : decode cX1_stepOverWord 66 = .ok (.iload_n 1, 1) := by decide +kernel
theorem dX1_stepOverWord_67 : decode cX1_stepOverWord 67 = .ok (.invokestatic 87, 3) := by decide +kernel
theorem dX1_stepOverWord_70 : decode cX1_stepOverWord 70 = .ok (.invokevirtual 91, 3) := by decide +kernel
theorem dX1_stepOverWord_73 : decode cX1_stepOverWord 73 = .ok (.ifCond .eq 28, 3) := by decide +kernel
theorem dX1_stepOverWord_76 : decode cX1_stepOverWord 76 = .ok (.aload_n 0, 1) := by decide +kernel
theorem dX1_stepOverWord_77 : decode cX1_stepOverWord 77 = .ok (.iload_n 1, 1) := by decide +kernel
theorem dX1_stepOverWord_78 : decode cX1_stepOverWord 78 = .ok (.bipush 6, 2) := by decide +kernel
theorem dX1_stepOverWord_80 : decode cX1_stepOverWord 80 = .ok (.if_icmp .ge 7, 3) := by decide +kernel
theorem dX1_stepOverWord_83 : decode cX1_stepOverWord 83 = .ok (.iconst 3, 1) := by decide +kernel
theorem dX1_stepOverWord_84 : decode cX1_stepOverWord 84 = .ok (.goto 9, 3) := by decide +kernel
theorem dX1_stepOverWord_87 : decode cX1_stepOverWord 87 = .ok (.iconst 4, 1) := by decide +kernel
theorem dX1_stepOverWord_88 : decode cX1_stepOverWord 88 = .ok (.iload_n 1, 1) := by decide +kernel
theorem dX1_stepOverWord_89 : decode cX1_stepOverWord 89 = .ok (.iadd, 1) := by decide +kernel
theorem dX1_stepOverWord_90 : decode cX1_stepOverWord 90 = .ok (.bipush 6, 2) := by decide +kernel
theorem dX1_stepOverWord_92 : decode cX1_stepOverWord 92 = .ok (.isub, 1) := by decide +kernel
theorem dX1_stepOverWord_93 : decode cX1_stepOverWord 93 = .ok (.putfield 39, 3) := by decide +kernel
theorem dX1_stepOverWord_96 : decode cX1_stepOverWord 96 = .ok (.aload_n 0, 1) := by decide +kernel
theorem dX1_stepOverWord_97 : decode cX1_stepOverWord 97 = .ok (.iload_n 1, 1) := by decide +kernel
theorem dX1_stepOverWord_98 : decode cX1_stepOverWord 98 = .ok (.putfield 69, 3) := by decide +kernel
theorem dX1_stepOverWord_101 : decode cX1_stepOverWord 101 = .ok (.iinc 1 1, 3) := by decide +kernel
theorem dX1_stepOverWord_104 : decode cX1_stepOverWord 104 = .ok (.goto (-45), 3) := by decide +kernel
theorem dX1_stepOverWord_107 : decode cX1_stepOverWord 107 = .ok (.return_, 1) := by decide +kernel
theorem dX1_whatWasRead_0 : decode cX1_whatWasRead 0 = .ok (.new 42, 3) := by decide +kernel
theorem dX1_whatWasRead_3 : decode cX1_whatWasRead 3 = .ok (.dup, 1) := by decide +kernel
theorem dX1_whatWasRead_4 : decode cX1_whatWasRead 4 = .ok (.aload_n 0, 1) := by decide +kernel
theorem dX1_whatWasRead_5 : decode cX1_whatWasRead 5 = .ok (.getfield 15, 3) := by decide +kernel
theorem dX1_whatWasRead_8 : decode cX1_whatWasRead 8 = .ok (.aload_n 0, 1) := by decide +kernel
theorem dX1_whatWasRead_9 : decode cX1_whatWasRead 9 = .ok (.getfield 25, 3) := by decide +kernel
theorem dX1_whatWasRead_12 : decode cX1_whatWasRead 12 = .ok (.invokestatic 44, 3) := by decide +kernel
theorem dX1_whatWasRead_15 : decode cX1_whatWasRead 15 = .ok (.aload_n 0, 1) := by decide +kernel
theorem dX1_whatWasRead_16 : decode cX1_whatWasRead 16 = .ok (.getfield 18, 3) := by decide +kernel
theorem dX1_whatWasRead_19 : decode cX1_whatWasRead 19 = .ok (.iconst 3, 1) := by decide +kernel
theorem dX1_whatWasRead_20 : decode cX1_whatWasRead 20 = .ok (.invokestatic 44, 3) := by decide +kernel
theorem dX1_whatWasRead_23 : decode cX1_whatWasRead 23 = .ok (.invokespecial 50, 3) := by decide +kernel
theorem dX1_whatWasRead_26 : decode cX1_whatWasRead 26 = .ok (.areturn, 1) := by decide +kernel
theorem dX2_find_0 : decode cX2_find 0 = .ok (.aload_n 0, 1) := by decide +kernel
theorem dX2_find_1 : decode cX2_find 1 = .ok (.getfield 22, 3) := by decide +kernel
theorem dX2_find_4 : decode cX2_find 4 = .ok (.ifCond .eq 18, 3) := by decide +kernel
theorem dX2_find_7 : decode cX2_find 7 = .ok (.aload_n 0, 1) := by decide +kernel
theorem dX2_find_8 : decode cX2_find 8 = .ok (.getfield 12, 3) := by decide +kernel
theorem dX2_find_11 : decode cX2_find 11 = .ok (.aload_n 1, 1) := by decide +kernel
theorem dX2_find_12 : decode cX2_find 12 = .ok (.getfield 26, 3) := by decide +kernel
theorem dX2_find_15 : decode cX2_find 15 = .ok (.invokevirtual 31, 3) := by decide +kernel
theorem dX2_find_18 : decode cX2_find 18 = .ok (.ifCond .eq 4, 3) := by decide +kernel
theorem dX2_find_21 : decode cX2_find 21 = .ok (.return_, 1) := by decide +kernel
theorem dX2_find_22 : decode cX2_find 22 = .ok (.aload_n 0, 1) := by decide +kernel
theorem dX2_find_23 : decode cX2_find 23 = .ok (.getfield 12, 3) := by decide +kernel
theorem dX2_find_26 : decode cX2_find 26 = .ok (.aload_n 1, 1) := by decide +kernel
theorem dX2_find_27 : decode cX2_find 27 = .ok (.getfield 26, 3) := by decide +kernel
theorem dX2_find_30 : decode cX2_find 30 = .ok (.invokevirtual 35, 3) := by decide +kernel
theorem dX2_find_33 : decode cX2_find 33 = .ok (.aload_n 0, 1) := by decide +kernel
theorem dX2_find_34 : decode cX2_find 34 = .ok (.aload_n 1, 1) := by decide +kernel
theorem dX2_find_35 : decode cX2_find 35 = .ok (.invokevirtual 39, 3) := by decide +kernel
theorem dX2_find_38 : decode cX2_find 38 = .ok (.iconst 1, 1) := by decide +kernel
theorem dX2_find_39 : decode cX2_find 39 = .ok (.iadd, 1) := by decide +kernel
theorem dX2_find_40 : decode cX2_find 40 = .ok (.putfield 43, 3) := by decide +kernel
theorem dX2_find_43 : decode cX2_find 43 = .ok (.aload_n 0, 1) := by decide +kernel
theorem dX2_find_44 : decode cX2_find 44 = .ok (.aload_n 1, 1) := by decide +kernel
theorem dX2_find_45 : decode cX2_find 45 = .ok (.iconst 0, 1) := by decide +kernel
theorem dX2_find_46 : decode cX2_find 46 = .ok (.iconst 0, 1) := by decide +kernel
theorem dX2_find_47 : decode cX2_find 47 = .ok (.invokevirtual 47, 3) := by decide +kernel
theorem dX2_find_50 : decode cX2_find 50 = .ok (.aload_n 0, 1) := by decide +kernel
theorem dX2_find_51 : decode cX2_find 51 = .ok (.iconst 1, 1) := by decide +kernel
theorem dX2_find_52 : decode cX2_find 52 = .ok (.putfield 22, 3) := by decide +kernel
theorem dX2_find_55 : decode cX2_find 55 = .ok (.return_, 1) := by decide +kernel
theorem dX2_init_0 : decode cX2_init 0 = .ok (.aload_n 0, 1) := by decide +kernel
theorem dX2_init_1 : decode cX2_init 1 = .ok (.invokespecial 3, 3) := by decide +kernel
theorem dX2_init_4 : decode cX2_init 4 = .ok (.aload_n 0, 1) := by decide +kernel
theorem dX2_init_5 : decode cX2_init 5 = .ok (.new 9, 3) := by decide +kernel
theorem dX2_init_8 : decode cX2_init 8 = .ok (.dup, 1) := by decide +kernel
theorem dX2_init_9 : decode cX2_init 9 = .ok (.invokespecial 11, 3) := by decide +kernel
theorem dX2_init_12 : decode cX2_init 12 = .ok (.putfield 12, 3) := by decide +kernel
theorem dX2_init_15 : decode cX2_init 15 = .ok (.aload_n 0, 1) := by decide +kernel
theorem dX2_init_16 : decode cX2_init 16 = .ok (.iconst 5, 1) := by decide +kernel
theorem dX2_init_17 : decode cX2_init 17 = .ok (.newarray .int, 2) := by decide +kernel
theorem dX2_init_19 : decode cX2_init 19 = .ok (.putfield 18, 3) := by decide +kernel
theorem dX2_init_22 : decode cX2_init 22 = .ok (.return_, 1) := by decide +kernel
theorem dX2_putFrom_0 : decode cX2_putFrom 0 = .ok (.iload_n 3, 1) := by decide +kernel
theorem dX2_putFrom_1 : decode cX2_putFrom 1 = .ok (.aload_n 0, 1) := by decide +kernel
theorem dX2_putFrom_2 : decode cX2_putFrom 2 = .ok (.getfield 43, 3) := by decide +kernel
theorem dX2_putFrom_5 : decode cX2_putFrom 5 = .ok (.if_icmp .lt 4, 3) := by decide +kernel
theorem dX2_putFrom_8 : decode cX2_putFrom 8 = .ok (.return_, 1) := by decide +kernel
theorem dX2_putFrom_9 : decode cX2_putFrom 9 = .ok (.iload_n 2, 1) := by decide +kernel
theorem dX2_putFrom_10 : decode cX2_putFrom 10 = .ok (.aload_n 0, 1) := by decide +kernel
theorem dX2_putFrom_11 : decode cX2_putFrom 11 = .ok (.getfield 12, 3) := by decide +kernel
theorem dX2_putFrom_14 : decode cX2_putFrom 14 = .ok (.getfield 51, 3) := by decide +kernel
theorem dX2_putFrom_17 : decode cX2_putFrom 17 = .ok (.if_icmp .ge 8, 3) := by decide +kernel
theorem dX2_putFrom_20 : decode cX2_putFrom 20 = .ok (.iload_n 2, 1) := by decide +kernel
theorem dX2_putFrom_21 : decode cX2_putFrom 21 = .ok (.iconst 5, 1) := by decide +kernel
theorem dX2_putFrom_22 : decode cX2_putFrom 22 = .ok (.if_icmp .lt 50, 3) := by decide +kernel
theorem dX2_putFrom_25 : decode cX2_putFrom 25 = .ok (.iload_n 3, 1) := by decide +kernel
theorem dX2_putFrom_26 : decode cX2_putFrom 26 = .ok (.aload_n 1, 1) := by decide +kernel
theorem dX2_putFrom_27 : decode cX2_putFrom 27 = .ok (.aload_n 0, 1) := by decide +kernel
theorem dX2_putFrom_28 : decode cX2_putFrom 28 = .ok (.getfield 43, 3) := by decide +kernel
theorem dX2_putFrom_31 : decode cX2_putFrom 31 = .ok (.iload_n 3, 1) := by decide +kernel
theorem dX2_putFrom_32 : decode cX2_putFrom 32 = .ok (.isub, 1) := by decide +kernel
theorem dX2_putFrom_33 : decode cX2_putFrom 33 = .ok (.invokevirtual 54, 3) := by decide +kernel
theorem dX2_putFrom_36 : decode cX2_putFrom 36 = .ok (.iadd, 1) := by decide +kernel
theorem dX2_putFrom_37 : decode cX2_putFrom 37 = .ok (.istore 4, 2) := by decide +kernel
theorem dX2_putFrom_39 : decode cX2_putFrom 39 = .ok (.iload 4, 2) := by decide +kernel
theorem dX2_putFrom_41 : decode cX2_putFrom 41 = .ok (.aload_n 0, 1) := by decide +kernel
theorem dX2_putFrom_42 : decode cX2_putFrom 42 = .ok (.getfield 43, 3) := by decide +kernel
theorem dX2_putFrom_45 : decode cX2_putFrom 45 = .ok (.if_icmp .ge 26, 3) := by decide +kernel
theorem dX2_putFrom_48 : decode cX2_putFrom 48 = .ok (.aload_n 0, 1) := by decide +kernel
theorem dX2_putFrom_49 : decode cX2_putFrom 49 = .ok (.iload 4, 2) := by decide +kernel
theorem dX2_putFrom_51 : decode cX2_putFrom 51 = .ok (.putfield 43, 3) := by decide +kernel
theorem dX2_putFrom_54 : decode cX2_putFrom 54 = .ok (.aload_n 1, 1) := by decide +kernel
theorem dX2_putFrom_55 : decode cX2_putFrom 55 = .ok (.getfield 26, 3) := by decide +kernel
theorem dX2_putFrom_58 : decode cX2_putFrom 58 = .ok (.getfield 58, 3) := by decide +kernel
theorem dX2_putFrom_61 : decode cX2_putFrom 61 = .ok (.iconst 0, 1) := by decide +kernel
theorem dX2_putFrom_62 : decode cX2_putFrom 62 = .ok (.aload_n 0, 1) := by decide +kernel
theorem dX2_putFrom_63 : decode cX2_putFrom 63 = .ok (.getfield 18, 3) := by decide +kernel
theorem dX2_putFrom_66 : decode cX2_putFrom 66 = .ok (.iconst 0, 1) := by decide +kernel
theorem dX2_putFrom_67 : decode cX2_putFrom 67 = .ok (.iconst 5, 1) := by decide +kernel
theorem dX2_putFrom_68 : decode cX2_putFrom 68 = .ok (.invokestatic 61, 3) := by decide +kernel
theorem dX2_putFrom_71 : decode cX2_putFrom 71 = .ok (.return_, 1) := by decide +kernel
theorem dX2_putFrom_72 : decode cX2_putFrom 72 = .ok (.iconst 0, 1) := by decide +kernel
theorem dX2_putFrom_73 : decode cX2_putFrom 73 = .ok (.istore 4, 2) := by decide +kernel
theorem dX2_putFrom_75 : decode cX2_putFrom 75 = .ok (.iload 4, 2) := by decide +kernel
theorem dX2_putFrom_77 : decode cX2_putFrom 77 = .ok (.bipush 6, 2) := by decide +kernel
theorem dX2_putFrom_79 : decode cX2_putFrom 79 = .ok (.if_icmp .ge 70, 3) := by decide +kernel
theorem dX2_putFrom_82 : decode cX2_putFrom 82 = .ok (.aload_n 1, 1) := by decide +kernel
theorem dX2_putFrom_83 : decode cX2_putFrom 83 = .ok (.getfield 26, 3) := by decide +kernel
theorem dX2_putFrom_86 : decode cX2_putFrom 86 = .ok (.getfield 58, 3) := by decide +kernel
theorem dX2_putFrom_89 : decode cX2_putFrom 89 = .ok (.iload_n 2, 1) := by decide +kernel
theorem dX2_putFrom_90 : decode cX2_putFrom 90 = .ok (.iload 4, 2) := by decide +kernel
theorem dX2_putFrom_92 : decode cX2_putFrom 92 = .ok (.iastore, 1) := by decide +kernel
theorem dX2_putFrom_93 : decode cX2_putFrom 93 = .ok (.aload_n 1, 1) := by decide +kernel
theorem dX2_putFrom_94 : decode cX2_putFrom 94 = .ok (.getfield 26, 3) := by decide +kernel
theorem dX2_putFrom_97 : decode cX2_putFrom 97 = .ok (.iload_n 2, 1) := by decide +kernel
theorem dX2_putFrom_98 : decode cX2_putFrom 98 = .ok (.iload_n 2, 1) := by decide +kernel
theorem dX2_putFrom_99 : decode cX2_putFrom 99 = .ok (.invokevirtual 67, 3) := by decide +kernel
theorem dX2_putFrom_102 : decode cX2_putFrom 102 = .ok (.ifCond .eq 41, 3) := by decide +kernel
theorem dX2_putFrom_105 : decode cX2_putFrom 105 = .ok (.aload_n 1, 1) := by decide +kernel
theorem dX2_putFrom_106 : decode cX2_putFrom 106 = .ok (.iload_n 2, 1) := by decide +kernel
theorem dX2_putFrom_107 : decode cX2_putFrom 107 = .ok (.invokevirtual 71, 3) := by decide +kernel
theorem dX2_putFrom_110 : decode cX2_putFrom 110 = .ok (.aload_n 0, 1) := by decide +kernel
theorem dX2_putFrom_111 : decode cX2_putFrom 111 = .ok (.aload_n 1, 1) := by decide +kernel
theorem dX2_putFrom_112 : decode cX2_putFrom 112 = .ok (.iload_n 2, 1) := by decide +kernel
theorem dX2_putFrom_113 : decode cX2_putFrom 113 = .ok (.iconst 1, 1) := by decide +kernel
theorem dX2_putFrom_114 : decode cX2_putFrom 114 = .ok (.iadd, 1) := by decide +kernel
theorem dX2_putFrom_115 : decode cX2_putFrom 115 = .ok (.iload_n 3, 1) := by decide +kernel
theorem dX2_putFrom_116 : decode cX2_putFrom 116 = .ok (.iload 4, 2) := by decide +kernel
theorem dX2_putFrom_118 : decode cX2_putFrom 118 = .ok (.aload_n 0, 1) := by decide +kernel
theorem dX2_putFrom_119 : decode cX2_putFrom 119 = .ok (.getfield 12, 3) := by decide +kernel
theorem dX2_putFrom_122 : decode cX2_putFrom 122 = .ok (.getfield 58, 3) := by decide +kernel
theorem dX2_putFrom_125 : decode cX2_putFrom 125 = .ok (.iload_n 2, 1) := by decide +kernel
theorem dX2_putFrom_126 : decode cX2_putFrom 126 = .ok (.iaload, 1) := by decide +kernel
theorem dX2_putFrom_127 : decode cX2_putFrom 127 = .ok (.if_icmp .ne 7, 3) := by decide +kernel
theorem dX2_putFrom_130 : decode cX2_putFrom 130 = .ok (.iconst 0, 1) := by decide +kernel
theorem dX2_putFrom_131 : decode cX2_putFrom 131 = .ok (.goto 8, 3) := by decide +kernel
theorem dX2_putFrom_134 : decode cX2_putFrom 134 = .ok (.aload_n 1, 1) := by decide +kernel
theorem dX2_putFrom_135 : decode cX2_putFrom 135 = .ok (.iload_n 2, 1) := by decide +kernel
theorem dX2_putFrom_136 : decode cX2_putFrom 136 = .ok (.invokevirtual 75, 3) := by decide +kernel
theorem dX2_putFrom_139 : decode cX2_putFrom 139 = .ok (.iadd, 1) := by decide +kernel
theorem dX2_putFrom_140 : decode cX2_putFrom 140 = .ok (.invokevirtual 47, 3) := by decide +kernel
theorem dX2_putFrom_143 : decode cX2_putFrom 143 = .ok (.iinc 4 1, 3) := by decide +kernel
theorem dX2_putFrom_146 : decode cX2_putFrom 146 = .ok (.goto (-71), 3) := by decide +kernel
theorem dX2_putFrom_149 : decode cX2_putFrom 149 = .ok (.return_, 1) := by decide +kernel
theorem dX3_become_0 : decode cX3_become 0 = .ok (.aload_n 0, 1) := by decide +kernel
theorem dX3_become_1 : decode cX3_become 1 = .ok (.iload_n 1, 1) := by decide +kernel
theorem dX3_become_2 : decode cX3_become 2 = .ok (.putfield 15, 3) := by decide +kernel
theorem dX3_become_5 : decode cX3_become 5 = .ok (.aload_n 0, 1) := by decide +kernel
theorem dX3_become_6 : decode cX3_become 6 = .ok (.iload_n 2, 1) := by decide +kernel
theorem dX3_become_7 : decode cX3_become 7 = .ok (.putfield 19, 3) := by decide +kernel
theorem dX3_become_10 : decode cX3_become 10 = .ok (.aload_n 0, 1) := by decide +kernel
theorem dX3_become_11 : decode cX3_become 11 = .ok (.getfield 9, 3) := by decide +kernel
theorem dX3_become_14 : decode cX3_become 14 = .ok (.iconst 0, 1) := by decide +kernel
theorem dX3_become_15 : decode cX3_become 15 = .ok (.invokestatic 22, 3) := by decide +kernel
theorem dX3_become_18 : decode cX3_become 18 = .ok (.return_, 1) := by decide +kernel
theorem dX3_holds_0 : decode cX3_holds 0 = .ok (.iload_n 1, 1) := by decide +kernel
theorem dX3_holds_1 : decode cX3_holds 1 = .ok (.ifCond .lt 29, 3) := by decide +kernel
theorem dX3_holds_4 : decode cX3_holds 4 = .ok (.iload_n 2, 1) := by decide +kernel
theorem dX3_holds_5 : decode cX3_holds 5 = .ok (.ifCond .lt 25, 3) := by decide +kernel
theorem dX3_holds_8 : decode cX3_holds 8 = .ok (.iload_n 1, 1) := by decide +kernel
theorem dX3_holds_9 : decode cX3_holds 9 = .ok (.aload_n 0, 1) := by decide +kernel
theorem dX3_holds_10 : decode cX3_holds 10 = .ok (.getfield 19, 3) := by decide +kernel
theorem dX3_holds_13 : decode cX3_holds 13 = .ok (.if_icmp .gt 17, 3) := by decide +kernel
theorem dX3_holds_16 : decode cX3_holds 16 = .ok (.iload_n 2, 1) := by decide +kernel
theorem dX3_holds_17 : decode cX3_holds 17 = .ok (.aload_n 0, 1) := by decide +kernel
theorem dX3_holds_18 : decode cX3_holds 18 = .ok (.getfield 19, 3) := by decide +kernel
theorem dX3_holds_21 : decode cX3_holds 21 = .ok (.iload_n 1, 1) := by decide +kernel
theorem dX3_holds_22 : decode cX3_holds 22 = .ok (.isub, 1) := by decide +kernel
theorem dX3_holds_23 : decode cX3_holds 23 = .ok (.if_icmp .gt 7, 3) := by decide +kernel
theorem dX3_holds_26 : decode cX3_holds 26 = .ok (.iconst 1, 1) := by decide +kernel
theorem dX3_holds_27 : decode cX3_holds 27 = .ok (.goto 4, 3) := by decide +kernel
theorem dX3_holds_30 : decode cX3_holds 30 = .ok (.iconst 0, 1) := by decide +kernel
theorem dX3_holds_31 : decode cX3_holds 31 = .ok (.ireturn, 1) := by decide +kernel
theorem dX3_init_0 : decode cX3_init 0 = .ok (.aload_n 0, 1) := by decide +kernel
theorem dX3_init_1 : decode cX3_init 1 = .ok (.invokespecial 3, 3) := by decide +kernel
theorem dX3_init_4 : decode cX3_init 4 = .ok (.aload_n 0, 1) := by decide +kernel
theorem dX3_init_5 : decode cX3_init 5 = .ok (.bipush 40, 2) := by decide +kernel
theorem dX3_init_7 : decode cX3_init 7 = .ok (.newarray .int, 2) := by decide +kernel
theorem dX3_init_9 : decode cX3_init 9 = .ok (.putfield 9, 3) := by decide +kernel
theorem dX3_init_12 : decode cX3_init 12 = .ok (.aload_n 0, 1) := by decide +kernel
theorem dX3_init_13 : decode cX3_init 13 = .ok (.iconst (-1), 1) := by decide +kernel
theorem dX3_init_14 : decode cX3_init 14 = .ok (.putfield 15, 3) := by decide +kernel
theorem dX3_init_17 : decode cX3_init 17 = .ok (.return_, 1) := by decide +kernel
theorem dX3_isMissing_0 : decode cX3_isMissing 0 = .ok (.aload_n 0, 1) := by decide +kernel
theorem dX3_isMissing_1 : decode cX3_isMissing 1 = .ok (.getfield 15, 3) := by decide +kernel
theorem dX3_isMissing_4 : decode cX3_isMissing 4 = .ok (.iconst (-1), 1) := by decide +kernel
theorem dX3_isMissing_5 : decode cX3_isMissing 5 = .ok (.if_icmp .ne 7, 3) := by decide +kernel
theorem dX3_isMissing_8 : decode cX3_isMissing 8 = .ok (.iconst 1, 1) := by decide +kernel
theorem dX3_isMissing_9 : decode cX3_isMissing 9 = .ok (.goto 4, 3) := by decide +kernel
theorem dX3_isMissing_12 : decode cX3_isMissing 12 = .ok (.iconst 0, 1) := by decide +kernel
theorem dX3_isMissing_13 : decode cX3_isMissing 13 = .ok (.ireturn, 1) := by decide +kernel
theorem dX3_narrowed_0 : decode cX3_narrowed 0 = .ok (.aload_n 0, 1) := by decide +kernel
theorem dX3_narrowed_1 : decode cX3_narrowed 1 = .ok (.getfield 15, 3) := by decide +kernel
theorem dX3_narrowed_4 : decode cX3_narrowed 4 = .ok (.ifCond .ne 6, 3) := by decide +kernel
theorem dX3_narrowed_7 : decode cX3_narrowed 7 = .ok (.iload_n 1, 1) := by decide +kernel
theorem dX3_narrowed_8 : decode cX3_narrowed 8 = .ok (.i2b, 1) := by decide +kernel
theorem dX3_narrowed_9 : decode cX3_narrowed 9 = .ok (.ireturn, 1) := by decide +kernel
theorem dX3_narrowed_10 : decode cX3_narrowed 10 = .ok (.aload_n 0, 1) := by decide +kernel
theorem dX3_narrowed_11 : decode cX3_narrowed 11 = .ok (.getfield 15, 3) := by decide +kernel
theorem dX3_narrowed_14 : decode cX3_narrowed 14 = .ok (.iconst 1, 1) := by decide +kernel
theorem dX3_narrowed_15 : decode cX3_narrowed 15 = .ok (.if_icmp .ne 8, 3) := by decide +kernel
theorem dX3_narrowed_18 : decode cX3_narrowed 18 = .ok (.iload_n 1, 1) := by decide +kernel
theorem dX3_narrowed_19 : decode cX3_narrowed 19 = .ok (.i2s, 1) := by decide +kernel
theorem dX3_narrowed_20 : decode cX3_narrowed 20 = .ok (.goto 4, 3) := by decide +kernel
theorem dX3_narrowed_23 : decode cX3_narrowed 23 = .ok (.iload_n 1, 1) := by decide +kernel
theorem dX3_narrowed_24 : decode cX3_narrowed 24 = .ok (.ireturn, 1) := by decide +kernel
theorem dX4_init_0 : decode cX4_init 0 = .ok (.aload_n 0, 1) := by decide +kernel
theorem dX4_init_1 : decode cX4_init 1 = .ok (.invokespecial 3, 3) := by decide +kernel
theorem dX4_init_4 : decode cX4_init 4 = .ok (.aload_n 0, 1) := by decide +kernel
theorem dX4_init_5 : decode cX4_init 5 = .ok (.aload_n 1, 1) := by decide +kernel
theorem dX4_init_6 : decode cX4_init 6 = .ok (.putfield 9, 3) := by decide +kernel
theorem dX4_init_9 : decode cX4_init 9 = .ok (.aload_n 0, 1) := by decide +kernel
theorem dX4_init_10 : decode cX4_init 10 = .ok (.aload_n 2, 1) := by decide +kernel
theorem dX4_init_11 : decode cX4_init 11 = .ok (.putfield 15, 3) := by decide +kernel
theorem dX4_init_14 : decode cX4_init 14 = .ok (.return_, 1) := by decide +kernel
theorem dX4_worth_0 : decode cX4_worth 0 = .ok (.iconst (-1), 1) := by decide +kernel
theorem dX4_worth_1 : decode cX4_worth 1 = .ok (.istore 4, 2) := by decide +kernel
theorem dX4_worth_3 : decode cX4_worth 3 = .ok (.iload_n 1, 1) := by decide +kernel
theorem dX4_worth_4 : decode cX4_worth 4 = .ok (.ifCond .ne 7, 3) := by decide +kernel
theorem dX4_worth_7 : decode cX4_worth 7 = .ok (.iconst 0, 1) := by decide +kernel
theorem dX4_worth_8 : decode cX4_worth 8 = .ok (.goto 11, 3) := by decide +kernel
theorem dX4_worth_11 : decode cX4_worth 11 = .ok (.aload_n 0, 1) := by decide +kernel
theorem dX4_worth_12 : decode cX4_worth 12 = .ok (.getfield 15, 3) := by decide +kernel
theorem dX4_worth_15 : decode cX4_worth 15 = .ok (.iload_n 1, 1) := by decide +kernel
theorem dX4_worth_16 : decode cX4_worth 16 = .ok (.iconst 1, 1) := by decide +kernel
theorem dX4_worth_17 : decode cX4_worth 17 = .ok (.isub, 1) := by decide +kernel
theorem dX4_worth_18 : decode cX4_worth 18 = .ok (.iaload, 1) := by decide +kernel
theorem dX4_worth_19 : decode cX4_worth 19 = .ok (.istore 5, 2) := by decide +kernel
theorem dX4_worth_21 : decode cX4_worth 21 = .ok (.iload 5, 2) := by decide +kernel
theorem dX4_worth_23 : decode cX4_worth 23 = .ok (.aload_n 0, 1) := by decide +kernel
theorem dX4_worth_24 : decode cX4_worth 24 = .ok (.getfield 15, 3) := by decide +kernel
theorem dX4_worth_27 : decode cX4_worth 27 = .ok (.iload_n 1, 1) := by decide +kernel
theorem dX4_worth_28 : decode cX4_worth 28 = .ok (.iaload, 1) := by decide +kernel
theorem dX4_worth_29 : decode cX4_worth 29 = .ok (.if_icmp .ge 290, 3) := by decide +kernel
theorem dX4_worth_32 : decode cX4_worth 32 = .ok (.aload_n 0, 1) := by decide +kernel
theorem dX4_worth_33 : decode cX4_worth 33 = .ok (.getfield 9, 3) := by decide +kernel
theorem dX4_worth_36 : decode cX4_worth 36 = .ok (.iload 5, 2) := by decide +kernel
theorem dX4_worth_38 : decode cX4_worth 38 = .ok (.iaload, 1) := by decide +kernel
theorem dX4_worth_39 : decode cX4_worth 39 = .ok (.istore 6, 2) := by decide +kernel
theorem dX4_worth_41 : decode cX4_worth 41 = .ok (.iload 6, 2) := by decide +kernel
theorem dX4_worth_43 : decode cX4_worth 43 = .ok (.bipush (-7), 2) := by decide +kernel
theorem dX4_worth_45 : decode cX4_worth 45 = .ok (.if_icmp .le 9, 3) := by decide +kernel
theorem dX4_worth_48 : decode cX4_worth 48 = .ok (.iinc 4 1, 3) := by decide +kernel
theorem dX4_worth_51 : decode cX4_worth 51 = .ok (.goto 13, 3) := by decide +kernel
theorem dX4_worth_54 : decode cX4_worth 54 = .ok (.iload 6, 2) := by decide +kernel
theorem dX4_worth_56 : decode cX4_worth 56 = .ok (.bipush (-14), 2) := by decide +kernel
theorem dX4_worth_58 : decode cX4_worth 58 = .ok (.if_icmp .le 6, 3) := by decide +kernel
theorem dX4_worth_61 : decode cX4_worth 61 = .ok (.iinc 4 (-1), 3) := by decide +kernel
theorem dX4_worth_64 : decode cX4_worth 64 = .ok (.iload 4, 2) := by decide +kernel
theorem dX4_worth_66 : decode cX4_worth 66 = .ok (.ifCond .lt 12, 3) := by decide +kernel
theorem dX4_worth_69 : decode cX4_worth 69 = .ok (.iload 4, 2) := by decide +kernel
theorem dX4_worth_71 : decode cX4_worth 71 = .ok (.iconst 1, 1) := by decide +kernel
theorem dX4_worth_72 : decode cX4_worth 72 = .ok (.iadd, 1) := by decide +kernel
theorem dX4_worth_73 : decode cX4_worth 73 = .ok (.aload_n 3, 1) := by decide +kernel
theorem dX4_worth_74 : decode cX4_worth 74 = .ok (.arraylength, 1) := by decide +kernel
theorem dX4_worth_75 : decode cX4_worth 75 = .ok (.if_icmp .lt 5, 3) := by decide +kernel
theorem dX4_worth_78 : decode cX4_worth 78 = .ok (.iconst 0, 1) := by decide +kernel
theorem dX4_worth_79 : decode cX4_worth 79 = .ok (.ireturn, 1) := by decide +kernel
theorem dX4_worth_80 : decode cX4_worth 80 = .ok (.aload_n 3, 1) := by decide +kernel
theorem dX4_worth_81 : decode cX4_worth 81 = .ok (.iload 4, 2) := by decide +kernel
theorem dX4_worth_83 : decode cX4_worth 83 = .ok (.iaload, 1) := by decide +kernel
theorem dX4_worth_84 : decode cX4_worth 84 = .ok (.istore 7, 2) := by decide +kernel
theorem dX4_worth_86 : decode cX4_worth 86 = .ok (.aload_n 3, 1) := by decide +kernel
theorem dX4_worth_87 : decode cX4_worth 87 = .ok (.iload 4, 2) := by decide +kernel
theorem dX4_worth_89 : decode cX4_worth 89 = .ok (.iconst 1, 1) := by decide +kernel
theorem dX4_worth_90 : decode cX4_worth 90 = .ok (.iadd, 1) := by decide +kernel
theorem dX4_worth_91 : decode cX4_worth 91 = .ok (.iaload, 1) := by decide +kernel
theorem dX4_worth_92 : decode cX4_worth 92 = .ok (.istore 8, 2) := by decide +kernel
theorem dX4_worth_94 : decode cX4_worth 94 = .ok (.iload 6, 2) := by decide +kernel
theorem dX4_worth_96 : decode cX4_worth 96 = .ok (.tableswitch 197 (-15) (-7) #[187, 170, 158, 146, 134, 115, 96, 74, 52], 52) := by decide +kernel
theorem dX4_worth_148 : decode cX4_worth 148 = .ok (.aload_n 3, 1) := by decide +kernel
theorem dX4_worth_149 : decode cX4_worth 149 = .ok (.iload 4, 2) := by decide +kernel
theorem dX4_worth_151 : decode cX4_worth 151 = .ok (.iload 7, 2) := by decide +kernel
theorem dX4_worth_153 : decode cX4_worth 153 = .ok (.ifCond .ne 8, 3) := by decide +kernel
theorem dX4_worth_156 : decode cX4_worth 156 = .ok (.iload 8, 2) := by decide +kernel
theorem dX4_worth_158 : decode cX4_worth 158 = .ok (.ifCond .eq 7, 3) := by decide +kernel
theorem dX4_worth_161 : decode cX4_worth 161 = .ok (.iconst 1, 1) := by decide +kernel
theorem dX4_worth_162 : decode cX4_worth 162 = .ok (.goto 4, 3) := by decide +kernel
theorem dX4_worth_165 : decode cX4_worth 165 = .ok (.iconst 0, 1) := by decide +kernel
theorem dX4_worth_166 : decode cX4_worth 166 = .ok (.iastore, 1) := by decide +kernel
theorem dX4_worth_167 : decode cX4_worth 167 = .ok (.goto 146, 3) := by decide +kernel
theorem dX4_worth_170 : decode cX4_worth 170 = .ok (.aload_n 3, 1) := by decide +kernel
theorem dX4_worth_171 : decode cX4_worth 171 = .ok (.iload 4, 2) := by decide +kernel
theorem dX4_worth_173 : decode cX4_worth 173 = .ok (.iload 7, 2) := by decide +kernel
theorem dX4_worth_175 : decode cX4_worth 175 = .ok (.ifCond .eq 12, 3) := by decide +kernel
theorem dX4_worth_178 : decode cX4_worth 178 = .ok (.iload 8, 2) := by decide +kernel
theorem dX4_worth_180 : decode cX4_worth 180 = .ok (.ifCond .eq 7, 3) := by decide +kernel
theorem dX4_worth_183 : decode cX4_worth 183 = .ok (.iconst 1, 1) := by decide +kernel
theorem dX4_worth_184 : decode cX4_worth 184 = .ok (.goto 4, 3) := by decide +kernel
theorem dX4_worth_187 : decode cX4_worth 187 = .ok (.iconst 0, 1) := by decide +kernel
theorem dX4_worth_188 : decode cX4_worth 188 = .ok (.iastore, 1) := by decide +kernel
theorem dX4_worth_189 : decode cX4_worth 189 = .ok (.goto 124, 3) := by decide +kernel
theorem dX4_worth_192 : decode cX4_worth 192 = .ok (.aload_n 3, 1) := by decide +kernel
theorem dX4_worth_193 : decode cX4_worth 193 = .ok (.iload 4, 2) := by decide +kernel
theorem dX4_worth_195 : decode cX4_worth 195 = .ok (.iload 7, 2) := by decide +kernel
theorem dX4_worth_197 : decode cX4_worth 197 = .ok (.iload 8, 2) := by decide +kernel
theorem dX4_worth_199 : decode cX4_worth 199 = .ok (.if_icmp .ge 7, 3) := by decide +kernel
theorem dX4_worth_202 : decode cX4_worth 202 = .ok (.iconst 1, 1) := by decide +kernel
theorem dX4_worth_203 : decode cX4_worth 203 = .ok (.goto 4, 3) := by decide +kernel
theorem dX4_worth_206 : decode cX4_worth 206 = .ok (.iconst 0, 1) := by decide +kernel
theorem dX4_worth_207 : decode cX4_worth 207 = .ok (.iastore, 1) := by decide +kernel
theorem dX4_worth_208 : decode cX4_worth 208 = .ok (.goto 105, 3) := by decide +kernel
theorem dX4_worth_211 : decode cX4_worth 211 = .ok (.aload_n 3, 1) := by decide +kernel
theorem dX4_worth_212 : decode cX4_worth 212 = .ok (.iload 4, 2) := by decide +kernel
theorem dX4_worth_214 : decode cX4_worth 214 = .ok (.iload 7, 2) := by decide +kernel
theorem dX4_worth_216 : decode cX4_worth 216 = .ok (.iload 8, 2) := by decide +kernel
theorem dX4_worth_218 : decode cX4_worth 218 = .ok (.if_icmp .ne 7, 3) := by decide +kernel
theorem dX4_worth_221 : decode cX4_worth 221 = .ok (.iconst 1, 1) := by decide +kernel
theorem dX4_worth_222 : decode cX4_worth 222 = .ok (.goto 4, 3) := by decide +kernel
theorem dX4_worth_225 : decode cX4_worth 225 = .ok (.iconst 0, 1) := by decide +kernel
theorem dX4_worth_226 : decode cX4_worth 226 = .ok (.iastore, 1) := by decide +kernel
theorem dX4_worth_227 : decode cX4_worth 227 = .ok (.goto 86, 3) := by decide +kernel
theorem dX4_worth_230 : decode cX4_worth 230 = .ok (.aload_n 3, 1) := by decide +kernel
theorem dX4_worth_231 : decode cX4_worth 231 = .ok (.iload 4, 2) := by decide +kernel
theorem dX4_worth_233 : decode cX4_worth 233 = .ok (.iload 7, 2) := by decide +kernel
theorem dX4_worth_235 : decode cX4_worth 235 = .ok (.iload 8, 2) := by decide +kernel
theorem dX4_worth_237 : decode cX4_worth 237 = .ok (.iadd, 1) := by decide +kernel
theorem dX4_worth_238 : decode cX4_worth 238 = .ok (.iastore, 1) := by decide +kernel
theorem dX4_worth_239 : decode cX4_worth 239 = .ok (.goto 74, 3) := by decide +kernel
theorem dX4_worth_242 : decode cX4_worth 242 = .ok (.aload_n 3, 1) := by decide +kernel
theorem dX4_worth_243 : decode cX4_worth 243 = .ok (.iload 4, 2) := by decide +kernel
theorem dX4_worth_245 : decode cX4_worth 245 = .ok (.iload 7, 2) := by decide +kernel
theorem dX4_worth_247 : decode cX4_worth 247 = .ok (.iload 8, 2) := by decide +kernel
theorem dX4_worth_249 : decode cX4_worth 249 = .ok (.isub, 1) := by decide +kernel
theorem dX4_worth_250 : decode cX4_worth 250 = .ok (.iastore, 1) := by decide +kernel
theorem dX4_worth_251 : decode cX4_worth 251 = .ok (.goto 62, 3) := by decide +kernel
theorem dX4_worth_254 : decode cX4_worth 254 = .ok (.aload_n 3, 1) := by decide +kernel
theorem dX4_worth_255 : decode cX4_worth 255 = .ok (.iload 4, 2) := by decide +kernel
theorem dX4_worth_257 : decode cX4_worth 257 = .ok (.iload 7, 2) := by decide +kernel
theorem dX4_worth_259 : decode cX4_worth 259 = .ok (.iload 8, 2) := by decide +kernel
theorem dX4_worth_261 : decode cX4_worth 261 = .ok (.imul, 1) := by decide +kernel
theorem dX4_worth_262 : decode cX4_worth 262 = .ok (.iastore, 1) := by decide +kernel
theorem dX4_worth_263 : decode cX4_worth 263 = .ok (.goto 50, 3) := by decide +kernel
theorem dX4_worth_266 : decode cX4_worth 266 = .ok (.aload_n 3, 1) := by decide +kernel
theorem dX4_worth_267 : decode cX4_worth 267 = .ok (.iload 4, 2) := by decide +kernel
theorem dX4_worth_269 : decode cX4_worth 269 = .ok (.iload 7, 2) := by decide +kernel
theorem dX4_worth_271 : decode cX4_worth 271 = .ok (.ifCond .ne 7, 3) := by decide +kernel
theorem dX4_worth_274 : decode cX4_worth 274 = .ok (.iconst 1, 1) := by decide +kernel
theorem dX4_worth_275 : decode cX4_worth 275 = .ok (.goto 4, 3) := by decide +kernel
theorem dX4_worth_278 : decode cX4_worth 278 = .ok (.iconst 0, 1) := by decide +kernel
theorem dX4_worth_279 : decode cX4_worth 279 = .ok (.iastore, 1) := by decide +kernel
theorem dX4_worth_280 : decode cX4_worth 280 = .ok (.goto 33, 3) := by decide +kernel
theorem dX4_worth_283 : decode cX4_worth 283 = .ok (.aload_n 3, 1) := by decide +kernel
theorem dX4_worth_284 : decode cX4_worth 284 = .ok (.iload 4, 2) := by decide +kernel
theorem dX4_worth_286 : decode cX4_worth 286 = .ok (.iload 7, 2) := by decide +kernel
theorem dX4_worth_288 : decode cX4_worth 288 = .ok (.ineg, 1) := by decide +kernel
theorem dX4_worth_289 : decode cX4_worth 289 = .ok (.iastore, 1) := by decide +kernel
theorem dX4_worth_290 : decode cX4_worth 290 = .ok (.goto 23, 3) := by decide +kernel
theorem dX4_worth_293 : decode cX4_worth 293 = .ok (.aload_n 3, 1) := by decide +kernel
theorem dX4_worth_294 : decode cX4_worth 294 = .ok (.iload 4, 2) := by decide +kernel
theorem dX4_worth_296 : decode cX4_worth 296 = .ok (.iload 6, 2) := by decide +kernel
theorem dX4_worth_298 : decode cX4_worth 298 = .ok (.ifCond .lt 8, 3) := by decide +kernel
theorem dX4_worth_301 : decode cX4_worth 301 = .ok (.iload 6, 2) := by decide +kernel
theorem dX4_worth_303 : decode cX4_worth 303 = .ok (.goto 9, 3) := by decide +kernel
theorem dX4_worth_306 : decode cX4_worth 306 = .ok (.aload_n 2, 1) := by decide +kernel
theorem dX4_worth_307 : decode cX4_worth 307 = .ok (.iconst (-1), 1) := by decide +kernel
theorem dX4_worth_308 : decode cX4_worth 308 = .ok (.iload 6, 2) := by decide +kernel
theorem dX4_worth_310 : decode cX4_worth 310 = .ok (.isub, 1) := by decide +kernel
theorem dX4_worth_311 : decode cX4_worth 311 = .ok (.iaload, 1) := by decide +kernel
theorem dX4_worth_312 : decode cX4_worth 312 = .ok (.iastore, 1) := by decide +kernel
theorem dX4_worth_313 : decode cX4_worth 313 = .ok (.iinc 5 1, 3) := by decide +kernel
theorem dX4_worth_316 : decode cX4_worth 316 = .ok (.goto (-295), 3) := by decide +kernel
theorem dX4_worth_319 : decode cX4_worth 319 = .ok (.iload 4, 2) := by decide +kernel
theorem dX4_worth_321 : decode cX4_worth 321 = .ok (.ifCond .ne 9, 3) := by decide +kernel
theorem dX4_worth_324 : decode cX4_worth 324 = .ok (.aload_n 3, 1) := by decide +kernel
theorem dX4_worth_325 : decode cX4_worth 325 = .ok (.iconst 0, 1) := by decide +kernel
theorem dX4_worth_326 : decode cX4_worth 326 = .ok (.iaload, 1) := by decide +kernel
theorem dX4_worth_327 : decode cX4_worth 327 = .ok (.goto 4, 3) := by decide +kernel
theorem dX4_worth_330 : decode cX4_worth 330 = .ok (.iconst 0, 1) := by decide +kernel
theorem dX4_worth_331 : decode cX4_worth 331 = .ok (.ireturn, 1) := by decide +kernel
theorem dX5_cost_0 : decode cX5_cost 0 = .ok (.aload_n 0, 1) := by decide +kernel
theorem dX5_cost_1 : decode cX5_cost 1 = .ok (.ldc 109, 2) := by decide +kernel
theorem dX5_cost_3 : decode cX5_cost 3 = .ok (.invokevirtual 110, 3) := by decide +kernel
theorem dX5_cost_6 : decode cX5_cost 6 = .ok (.ireturn, 1) := by decide +kernel
theorem dX5_costAt_0 : decode cX5_costAt 0 = .ok (.iload_n 2, 1) := by decide +kernel
theorem dX5_costAt_1 : decode cX5_costAt 1 = .ok (.ifCond .ne 5, 3) := by decide +kernel
theorem dX5_costAt_4 : decode cX5_costAt 4 = .ok (.iconst 0, 1) := by decide +kernel
theorem dX5_costAt_5 : decode cX5_costAt 5 = .ok (.ireturn, 1) := by decide +kernel
theorem dX5_costAt_6 : decode cX5_costAt 6 = .ok (.aload_n 0, 1) := by decide +kernel
theorem dX5_costAt_7 : decode cX5_costAt 7 = .ok (.getfield 18, 3) := by decide +kernel
theorem dX5_costAt_10 : decode cX5_costAt 10 = .ok (.iload_n 1, 1) := by decide +kernel
theorem dX5_costAt_11 : decode cX5_costAt 11 = .ok (.iaload, 1) := by decide +kernel
theorem dX5_costAt_12 : decode cX5_costAt 12 = .ok (.aload_n 0, 1) := by decide +kernel
theorem dX5_costAt_13 : decode cX5_costAt 13 = .ok (.getfield 22, 3) := by decide +kernel
theorem dX5_costAt_16 : decode cX5_costAt 16 = .ok (.iload_n 1, 1) := by decide +kernel
theorem dX5_costAt_17 : decode cX5_costAt 17 = .ok (.iaload, 1) := by decide +kernel
theorem dX5_costAt_18 : decode cX5_costAt 18 = .ok (.ior, 1) := by decide +kernel
theorem dX5_costAt_19 : decode cX5_costAt 19 = .ok (.invokestatic 96, 3) := by decide +kernel
theorem dX5_costAt_22 : decode cX5_costAt 22 = .ok (.istore_n 3, 1) := by decide +kernel
theorem dX5_costAt_23 : decode cX5_costAt 23 = .ok (.iconst 0, 1) := by decide +kernel
theorem dX5_costAt_24 : decode cX5_costAt 24 = .ok (.istore 4, 2) := by decide +kernel
theorem dX5_costAt_26 : decode cX5_costAt 26 = .ok (.iconst 0, 1) := by decide +kernel
theorem dX5_costAt_27 : decode cX5_costAt 27 = .ok (.istore 5, 2) := by decide +kernel
theorem dX5_costAt_29 : decode cX5_costAt 29 = .ok (.iload 5, 2) := by decide +kernel
theorem dX5_costAt_31 : decode cX5_costAt 31 = .ok (.aload_n 0, 1) := by decide +kernel
theorem dX5_costAt_32 : decode cX5_costAt 32 = .ok (.getfield 12, 3) := by decide +kernel
theorem dX5_costAt_35 : decode cX5_costAt 35 = .ok (.getfield 53, 3) := by decide +kernel
theorem dX5_costAt_38 : decode cX5_costAt 38 = .ok (.if_icmp .ge 72, 3) := by decide +kernel
theorem dX5_costAt_41 : decode cX5_costAt 41 = .ok (.iload_n 2, 1) := by decide +kernel
theorem dX5_costAt_42 : decode cX5_costAt 42 = .ok (.iload 5, 2) := by decide +kernel
theorem dX5_costAt_44 : decode cX5_costAt 44 = .ok (.ishr, 1) := by decide +kernel
theorem dX5_costAt_45 : decode cX5_costAt 45 = .ok (.iconst 1, 1) := by decide +kernel
theorem dX5_costAt_46 : decode cX5_costAt 46 = .ok (.iand, 1) := by decide +kernel
theorem dX5_costAt_47 : decode cX5_costAt 47 = .ok (.ifCond .eq 29, 3) := by decide +kernel
theorem dX5_costAt_50 : decode cX5_costAt 50 = .ok (.iload 4, 2) := by decide +kernel
theorem dX5_costAt_52 : decode cX5_costAt 52 = .ok (.aload_n 0, 1) := by decide +kernel
theorem dX5_costAt_53 : decode cX5_costAt 53 = .ok (.getfield 12, 3) := by decide +kernel
theorem dX5_costAt_56 : decode cX5_costAt 56 = .ok (.iload 5, 2) := by decide +kernel
theorem dX5_costAt_58 : decode cX5_costAt 58 = .ok (.aload_n 0, 1) := by decide +kernel
theorem dX5_costAt_59 : decode cX5_costAt 59 = .ok (.iconst 0, 1) := by decide +kernel
theorem dX5_costAt_60 : decode cX5_costAt 60 = .ok (.iload 5, 2) := by decide +kernel
theorem dX5_costAt_62 : decode cX5_costAt 62 = .ok (.iload_n 1, 1) := by decide +kernel
theorem dX5_costAt_63 : decode cX5_costAt 63 = .ok (.iload_n 3, 1) := by decide +kernel
theorem dX5_costAt_64 : decode cX5_costAt 64 = .ok (.invokevirtual 102, 3) := by decide +kernel
theorem dX5_costAt_67 : decode cX5_costAt 67 = .ok (.invokevirtual 106, 3) := by decide +kernel
theorem dX5_costAt_70 : decode cX5_costAt 70 = .ok (.iadd, 1) := by decide +kernel
theorem dX5_costAt_71 : decode cX5_costAt 71 = .ok (.istore 4, 2) := by decide +kernel
theorem dX5_costAt_73 : decode cX5_costAt 73 = .ok (.goto 31, 3) := by decide +kernel
theorem dX5_costAt_76 : decode cX5_costAt 76 = .ok (.aload_n 0, 1) := by decide +kernel
theorem dX5_costAt_77 : decode cX5_costAt 77 = .ok (.getfield 18, 3) := by decide +kernel
theorem dX5_costAt_80 : decode cX5_costAt 80 = .ok (.iload_n 1, 1) := by decide +kernel
theorem dX5_costAt_81 : decode cX5_costAt 81 = .ok (.iaload, 1) := by decide +kernel
theorem dX5_costAt_82 : decode cX5_costAt 82 = .ok (.iload 5, 2) := by decide +kernel
theorem dX5_costAt_84 : decode cX5_costAt 84 = .ok (.ishr, 1) := by decide +kernel
theorem dX5_costAt_85 : decode cX5_costAt 85 = .ok (.iconst 1, 1) := by decide +kernel
theorem dX5_costAt_86 : decode cX5_costAt 86 = .ok (.iand, 1) := by decide +kernel
theorem dX5_costAt_87 : decode cX5_costAt 87 = .ok (.ifCond .eq 17, 3) := by decide +kernel
theorem dX5_costAt_90 : decode cX5_costAt 90 = .ok (.iload 4, 2) := by decide +kernel
theorem dX5_costAt_92 : decode cX5_costAt 92 = .ok (.aload_n 0, 1) := by decide +kernel
theorem dX5_costAt_93 : decode cX5_costAt 93 = .ok (.iconst 1, 1) := by decide +kernel
theorem dX5_costAt_94 : decode cX5_costAt 94 = .ok (.iload 5, 2) := by decide +kernel
theorem dX5_costAt_96 : decode cX5_costAt 96 = .ok (.iload_n 1, 1) := by decide +kernel
theorem dX5_costAt_97 : decode cX5_costAt 97 = .ok (.iload_n 3, 1) := by decide +kernel
theorem dX5_costAt_98 : decode cX5_costAt 98 = .ok (.invokevirtual 102, 3) := by decide +kernel
theorem dX5_costAt_101 : decode cX5_costAt 101 = .ok (.iadd, 1) := by decide +kernel
theorem dX5_costAt_102 : decode cX5_costAt 102 = .ok (.istore 4, 2) := by decide +kernel
theorem dX5_costAt_104 : decode cX5_costAt 104 = .ok (.iinc 5 1, 3) := by decide +kernel
theorem dX5_costAt_107 : decode cX5_costAt 107 = .ok (.goto (-78), 3) := by decide +kernel
theorem dX5_costAt_110 : decode cX5_costAt 110 = .ok (.iload 4, 2) := by decide +kernel
theorem dX5_costAt_112 : decode cX5_costAt 112 = .ok (.ireturn, 1) := by decide +kernel
theorem dX5_costBelow_0 : decode cX5_costBelow 0 = .ok (.iconst 0, 1) := by decide +kernel
theorem dX5_costBelow_1 : decode cX5_costBelow 1 = .ok (.istore_n 2, 1) := by decide +kernel
theorem dX5_costBelow_2 : decode cX5_costBelow 2 = .ok (.iconst 0, 1) := by decide +kernel
theorem dX5_costBelow_3 : decode cX5_costBelow 3 = .ok (.istore_n 3, 1) := by decide +kernel
theorem dX5_costBelow_4 : decode cX5_costBelow 4 = .ok (.iload_n 3, 1) := by decide +kernel
theorem dX5_costBelow_5 : decode cX5_costBelow 5 = .ok (.bipush 10, 2) := by decide +kernel
theorem dX5_costBelow_7 : decode cX5_costBelow 7 = .ok (.if_icmp .ge 27, 3) := by decide +kernel
theorem dX5_costBelow_10 : decode cX5_costBelow 10 = .ok (.iload_n 2, 1) := by decide +kernel
theorem dX5_costBelow_11 : decode cX5_costBelow 11 = .ok (.iload_n 1, 1) := by decide +kernel
theorem dX5_costBelow_12 : decode cX5_costBelow 12 = .ok (.if_icmp .ge 22, 3) := by decide +kernel
theorem dX5_costBelow_15 : decode cX5_costBelow 15 = .ok (.iload_n 2, 1) := by decide +kernel
theorem dX5_costBelow_16 : decode cX5_costBelow 16 = .ok (.aload_n 0, 1) := by decide +kernel
theorem dX5_costBelow_17 : decode cX5_costBelow 17 = .ok (.iload_n 3, 1) := by decide +kernel
theorem dX5_costBelow_18 : decode cX5_costBelow 18 = .ok (.aload_n 0, 1) := by decide +kernel
theorem dX5_costBelow_19 : decode cX5_costBelow 19 = .ok (.iload_n 3, 1) := by decide +kernel
theorem dX5_costBelow_20 : decode cX5_costBelow 20 = .ok (.invokevirtual 113, 3) := by decide +kernel
theorem dX5_costBelow_23 : decode cX5_costBelow 23 = .ok (.invokevirtual 116, 3) := by decide +kernel
theorem dX5_costBelow_26 : decode cX5_costBelow 26 = .ok (.iadd, 1) := by decide +kernel
theorem dX5_costBelow_27 : decode cX5_costBelow 27 = .ok (.istore_n 2, 1) := by decide +kernel
theorem dX5_costBelow_28 : decode cX5_costBelow 28 = .ok (.iinc 3 1, 3) := by decide +kernel
theorem dX5_costBelow_31 : decode cX5_costBelow 31 = .ok (.goto (-27), 3) := by decide +kernel
theorem dX5_costBelow_34 : decode cX5_costBelow 34 = .ok (.iload_n 2, 1) := by decide +kernel
theorem dX5_costBelow_35 : decode cX5_costBelow 35 = .ok (.ireturn, 1) := by decide +kernel
theorem dX5_costToMove_0 : decode cX5_costToMove 0 = .ok (.aload_n 0, 1) := by decide +kernel
theorem dX5_costToMove_1 : decode cX5_costToMove 1 = .ok (.iconst 2, 1) := by decide +kernel
theorem dX5_costToMove_2 : decode cX5_costToMove 2 = .ok (.iload_n 1, 1) := by decide +kernel
theorem dX5_costToMove_3 : decode cX5_costToMove 3 = .ok (.aload_n 0, 1) := by decide +kernel
theorem dX5_costToMove_4 : decode cX5_costToMove 4 = .ok (.getfield 12, 3) := by decide +kernel
theorem dX5_costToMove_7 : decode cX5_costToMove 7 = .ok (.getfield 67, 3) := by decide +kernel
theorem dX5_costToMove_10 : decode cX5_costToMove 10 = .ok (.iload_n 1, 1) := by decide +kernel
theorem dX5_costToMove_11 : decode cX5_costToMove 11 = .ok (.iaload, 1) := by decide +kernel
theorem dX5_costToMove_12 : decode cX5_costToMove 12 = .ok (.iconst 0, 1) := by decide +kernel
theorem dX5_costToMove_13 : decode cX5_costToMove 13 = .ok (.invokevirtual 102, 3) := by decide +kernel
theorem dX5_costToMove_16 : decode cX5_costToMove 16 = .ok (.ireturn, 1) := by decide +kernel
theorem dX5_floorsWithSteps_0 : decode cX5_floorsWithSteps 0 = .ok (.iconst 0, 1) := by decide +kernel
theorem dX5_floorsWithSteps_1 : decode cX5_floorsWithSteps 1 = .ok (.istore_n 1, 1) := by decide +kernel
theorem dX5_floorsWithSteps_2 : decode cX5_floorsWithSteps 2 = .ok (.iconst 0, 1) := by decide +kernel
theorem dX5_floorsWithSteps_3 : decode cX5_floorsWithSteps 3 = .ok (.istore_n 2, 1) := by decide +kernel
theorem dX5_floorsWithSteps_4 : decode cX5_floorsWithSteps 4 = .ok (.iload_n 2, 1) := by decide +kernel
theorem dX5_floorsWithSteps_5 : decode cX5_floorsWithSteps 5 = .ok (.bipush 10, 2) := by decide +kernel
theorem dX5_floorsWithSteps_7 : decode cX5_floorsWithSteps 7 = .ok (.if_icmp .ge 23, 3) := by decide +kernel
theorem dX5_floorsWithSteps_10 : decode cX5_floorsWithSteps 10 = .ok (.aload_n 0, 1) := by decide +kernel
theorem dX5_floorsWithSteps_11 : decode cX5_floorsWithSteps 11 = .ok (.iload_n 2, 1) := by decide +kernel
theorem dX5_floorsWithSteps_12 : decode cX5_floorsWithSteps 12 = .ok (.invokevirtual 113, 3) := by decide +kernel
theorem dX5_floorsWithSteps_15 : decode cX5_floorsWithSteps 15 = .ok (.ifCond .eq 9, 3) := by decide +kernel
theorem dX5_floorsWithSteps_18 : decode cX5_floorsWithSteps 18 = .ok (.iload_n 1, 1) := by decide +kernel
theorem dX5_floorsWithSteps_19 : decode cX5_floorsWithSteps 19 = .ok (.iconst 1, 1) := by decide +kernel
theorem dX5_floorsWithSteps_20 : decode cX5_floorsWithSteps 20 = .ok (.iload_n 2, 1) := by decide +kernel
theorem dX5_floorsWithSteps_21 : decode cX5_floorsWithSteps 21 = .ok (.ishl, 1) := by decide +kernel
theorem dX5_floorsWithSteps_22 : decode cX5_floorsWithSteps 22 = .ok (.ior, 1) := by decide +kernel
theorem dX5_floorsWithSteps_23 : decode cX5_floorsWithSteps 23 = .ok (.istore_n 1, 1) := by decide +kernel
theorem dX5_floorsWithSteps_24 : decode cX5_floorsWithSteps 24 = .ok (.iinc 2 1, 3) := by decide +kernel
theorem dX5_floorsWithSteps_27 : decode cX5_floorsWithSteps 27 = .ok (.goto (-23), 3) := by decide +kernel
theorem dX5_floorsWithSteps_30 : decode cX5_floorsWithSteps 30 = .ok (.iload_n 1, 1) := by decide +kernel
theorem dX5_floorsWithSteps_31 : decode cX5_floorsWithSteps 31 = .ok (.ireturn, 1) := by decide +kernel
theorem dX5_gather_0 : decode cX5_gather 0 = .ok (.aload_n 0, 1) := by decide +kernel
theorem dX5_gather_1 : decode cX5_gather 1 = .ok (.getfield 34, 3) := by decide +kernel
theorem dX5_gather_4 : decode cX5_gather 4 = .ok (.iconst (-1), 1) := by decide +kernel
theorem dX5_gather_5 : decode cX5_gather 5 = .ok (.invokestatic 61, 3) := by decide +kernel
theorem dX5_gather_8 : decode cX5_gather 8 = .ok (.iconst 0, 1) := by decide +kernel
theorem dX5_gather_9 : decode cX5_gather 9 = .ok (.istore_n 2, 1) := by decide +kernel
theorem dX5_gather_10 : decode cX5_gather 10 = .ok (.iload_n 2, 1) := by decide +kernel
theorem dX5_gather_11 : decode cX5_gather 11 = .ok (.bipush 10, 2) := by decide +kernel
theorem dX5_gather_13 : decode cX5_gather 13 = .ok (.if_icmp .ge 147, 3) := by decide +kernel
theorem dX5_gather_16 : decode cX5_gather 16 = .ok (.aload_n 0, 1) := by decide +kernel
theorem dX5_gather_17 : decode cX5_gather 17 = .ok (.getfield 18, 3) := by decide +kernel
theorem dX5_gather_20 : decode cX5_gather 20 = .ok (.iload_n 2, 1) := by decide +kernel
theorem dX5_gather_21 : decode cX5_gather 21 = .ok (.iconst 0, 1) := by decide +kernel
theorem dX5_gather_22 : decode cX5_gather 22 = .ok (.iastore, 1) := by decide +kernel
theorem dX5_gather_23 : decode cX5_gather 23 = .ok (.aload_n 0, 1) := by decide +kernel
theorem dX5_gather_24 : decode cX5_gather 24 = .ok (.getfield 22, 3) := by decide +kernel
theorem dX5_gather_27 : decode cX5_gather 27 = .ok (.iload_n 2, 1) := by decide +kernel
theorem dX5_gather_28 : decode cX5_gather 28 = .ok (.iconst 0, 1) := by decide +kernel
theorem dX5_gather_29 : decode cX5_gather 29 = .ok (.iastore, 1) := by decide +kernel
theorem dX5_gather_30 : decode cX5_gather 30 = .ok (.aload_n 0, 1) := by decide +kernel
theorem dX5_gather_31 : decode cX5_gather 31 = .ok (.getfield 25, 3) := by decide +kernel
theorem dX5_gather_34 : decode cX5_gather 34 = .ok (.iload_n 2, 1) := by decide +kernel
theorem dX5_gather_35 : decode cX5_gather 35 = .ok (.iconst 0, 1) := by decide +kernel
theorem dX5_gather_36 : decode cX5_gather 36 = .ok (.iastore, 1) := by decide +kernel
theorem dX5_gather_37 : decode cX5_gather 37 = .ok (.iconst 0, 1) := by decide +kernel
theorem dX5_gather_38 : decode cX5_gather 38 = .ok (.istore_n 3, 1) := by decide +kernel
theorem dX5_gather_39 : decode cX5_gather 39 = .ok (.iload_n 3, 1) := by decide +kernel
theorem dX5_gather_40 : decode cX5_gather 40 = .ok (.aload_n 0, 1) := by decide +kernel
theorem dX5_gather_41 : decode cX5_gather 41 = .ok (.getfield 12, 3) := by decide +kernel
theorem dX5_gather_44 : decode cX5_gather 44 = .ok (.getfield 53, 3) := by decide +kernel
theorem dX5_gather_47 : decode cX5_gather 47 = .ok (.if_icmp .ge 107, 3) := by decide +kernel
theorem dX5_gather_50 : decode cX5_gather 50 = .ok (.iload_n 1, 1) := by decide +kernel
theorem dX5_gather_51 : decode cX5_gather 51 = .ok (.iconst 1, 1) := by decide +kernel
theorem dX5_gather_52 : decode cX5_gather 52 = .ok (.iload_n 3, 1) := by decide +kernel
theorem dX5_gather_53 : decode cX5_gather 53 = .ok (.ishl, 1) := by decide +kernel
theorem dX5_gather_54 : decode cX5_gather 54 = .ok (.iand, 1) := by decide +kernel
theorem dX5_gather_55 : decode cX5_gather 55 = .ok (.istore 4, 2) := by decide +kernel
theorem dX5_gather_57 : decode cX5_gather 57 = .ok (.iload_n 2, 1) := by decide +kernel
theorem dX5_gather_58 : decode cX5_gather 58 = .ok (.aload_n 0, 1) := by decide +kernel
theorem dX5_gather_59 : decode cX5_gather 59 = .ok (.getfield 12, 3) := by decide +kernel
theorem dX5_gather_62 : decode cX5_gather 62 = .ok (.getfield 67, 3) := by decide +kernel
theorem dX5_gather_65 : decode cX5_gather 65 = .ok (.iload_n 3, 1) := by decide +kernel
theorem dX5_gather_66 : decode cX5_gather 66 = .ok (.iaload, 1) := by decide +kernel
theorem dX5_gather_67 : decode cX5_gather 67 = .ok (.if_icmp .ne 17, 3) := by decide +kernel
theorem dX5_gather_70 : decode cX5_gather 70 = .ok (.aload_n 0, 1) := by decide +kernel
theorem dX5_gather_71 : decode cX5_gather 71 = .ok (.getfield 25, 3) := by decide +kernel
theorem dX5_gather_74 : decode cX5_gather 74 = .ok (.iload_n 2, 1) := by decide +kernel
theorem dX5_gather_75 : decode cX5_gather 75 = .ok (.dup2, 1) := by decide +kernel
theorem dX5_gather_76 : decode cX5_gather 76 = .ok (.iaload, 1) := by decide +kernel
theorem dX5_gather_77 : decode cX5_gather 77 = .ok (.iload 4, 2) := by decide +kernel
theorem dX5_gather_79 : decode cX5_gather 79 = .ok (.ior, 1) := by decide +kernel
theorem dX5_gather_80 : decode cX5_gather 80 = .ok (.iastore, 1) := by decide +kernel
theorem dX5_gather_81 : decode cX5_gather 81 = .ok (.goto 67, 3) := by decide +kernel
theorem dX5_gather_84 : decode cX5_gather 84 = .ok (.iload_n 2, 1) := by decide +kernel
theorem dX5_gather_85 : decode cX5_gather 85 = .ok (.aload_n 0, 1) := by decide +kernel
theorem dX5_gather_86 : decode cX5_gather 86 = .ok (.getfield 12, 3) := by decide +kernel
theorem dX5_gather_89 : decode cX5_gather 89 = .ok (.getfield 70, 3) := by decide +kernel
theorem dX5_gather_92 : decode cX5_gather 92 = .ok (.iload_n 3, 1) := by decide +kernel
theorem dX5_gather_93 : decode cX5_gather 93 = .ok (.iaload, 1) := by decide +kernel
theorem dX5_gather_94 : decode cX5_gather 94 = .ok (.if_icmp .ne 17, 3) := by decide +kernel
theorem dX5_gather_97 : decode cX5_gather 97 = .ok (.aload_n 0, 1) := by decide +kernel
theorem dX5_gather_98 : decode cX5_gather 98 = .ok (.getfield 22, 3) := by decide +kernel
theorem dX5_gather_101 : decode cX5_gather 101 = .ok (.iload_n 2, 1) := by decide +kernel
theorem dX5_gather_102 : decode cX5_gather 102 = .ok (.dup2, 1) := by decide +kernel
theorem dX5_gather_103 : decode cX5_gather 103 = .ok (.iaload, 1) := by decide +kernel
theorem dX5_gather_104 : decode cX5_gather 104 = .ok (.iload 4, 2) := by decide +kernel
theorem dX5_gather_106 : decode cX5_gather 106 = .ok (.ior, 1) := by decide +kernel
theorem dX5_gather_107 : decode cX5_gather 107 = .ok (.iastore, 1) := by decide +kernel
theorem dX5_gather_108 : decode cX5_gather 108 = .ok (.goto 40, 3) := by decide +kernel
theorem dX5_gather_111 : decode cX5_gather 111 = .ok (.iload_n 2, 1) := by decide +kernel
theorem dX5_gather_112 : decode cX5_gather 112 = .ok (.aload_n 0, 1) := by decide +kernel
theorem dX5_gather_113 : decode cX5_gather 113 = .ok (.getfield 12, 3) := by decide +kernel
theorem dX5_gather_116 : decode cX5_gather 116 = .ok (.getfield 67, 3) := by decide +kernel
theorem dX5_gather_119 : decode cX5_gather 119 = .ok (.iload_n 3, 1) := by decide +kernel
theorem dX5_gather_120 : decode cX5_gather 120 = .ok (.iaload, 1) := by decide +kernel
theorem dX5_gather_121 : decode cX5_gather 121 = .ok (.if_icmp .le 27, 3) := by decide +kernel
theorem dX5_gather_124 : decode cX5_gather 124 = .ok (.iload_n 2, 1) := by decide +kernel
theorem dX5_gather_125 : decode cX5_gather 125 = .ok (.aload_n 0, 1) := by decide +kernel
theorem dX5_gather_126 : decode cX5_gather 126 = .ok (.getfield 12, 3) := by decide +kernel
theorem dX5_gather_129 : decode cX5_gather 129 = .ok (.getfield 70, 3) := by decide +kernel
theorem dX5_gather_132 : decode cX5_gather 132 = .ok (.iload_n 3, 1) := by decide +kernel
theorem dX5_gather_133 : decode cX5_gather 133 = .ok (.iaload, 1) := by decide +kernel
theorem dX5_gather_134 : decode cX5_gather 134 = .ok (.if_icmp .ge 14, 3) := by decide +kernel
theorem dX5_gather_137 : decode cX5_gather 137 = .ok (.aload_n 0, 1) := by decide +kernel
theorem dX5_gather_138 : decode cX5_gather 138 = .ok (.getfield 18, 3) := by decide +kernel
theorem dX5_gather_141 : decode cX5_gather 141 = .ok (.iload_n 2, 1) := by decide +kernel
theorem dX5_gather_142 : decode cX5_gather 142 = .ok (.dup2, 1) := by decide +kernel
theorem dX5_gather_143 : decode cX5_gather 143 = .ok (.iaload, 1) := by decide +kernel
theorem dX5_gather_144 : decode cX5_gather 144 = .ok (.iload 4, 2) := by decide +kernel
theorem dX5_gather_146 : decode cX5_gather 146 = .ok (.ior, 1) := by decide +kernel
theorem dX5_gather_147 : decode cX5_gather 147 = .ok (.iastore, 1) := by decide +kernel
theorem dX5_gather_148 : decode cX5_gather 148 = .ok (.iinc 3 1, 3) := by decide +kernel
theorem dX5_gather_151 : decode cX5_gather 151 = .ok (.goto (-112), 3) := by decide +kernel
theorem dX5_gather_154 : decode cX5_gather 154 = .ok (.iinc 2 1, 3) := by decide +kernel
theorem dX5_gather_157 : decode cX5_gather 157 = .ok (.goto (-147), 3) := by decide +kernel
theorem dX5_gather_160 : decode cX5_gather 160 = .ok (.aload_n 0, 1) := by decide +kernel
theorem dX5_gather_161 : decode cX5_gather 161 = .ok (.invokevirtual 73, 3) := by decide +kernel
theorem dX5_gather_164 : decode cX5_gather 164 = .ok (.return_, 1) := by decide +kernel
theorem dX5_init_0 : decode cX5_init 0 = .ok (.aload_n 0, 1) := by decide +kernel
theorem dX5_init_1 : decode cX5_init 1 = .ok (.invokespecial 3, 3) := by decide +kernel
theorem dX5_init_4 : decode cX5_init 4 = .ok (.aload_n 0, 1) := by decide +kernel
theorem dX5_init_5 : decode cX5_init 5 = .ok (.new 9, 3) := by decide +kernel
theorem dX5_init_8 : decode cX5_init 8 = .ok (.dup, 1) := by decide +kernel
theorem dX5_init_9 : decode cX5_init 9 = .ok (.invokespecial 11, 3) := by decide +kernel
theorem dX5_init_12 : decode cX5_init 12 = .ok (.putfield 12, 3) := by decide +kernel
theorem dX5_init_15 : decode cX5_init 15 = .ok (.aload_n 0, 1) := by decide +kernel
theorem dX5_init_16 : decode cX5_init 16 = .ok (.bipush 10, 2) := by decide +kernel
theorem dX5_init_18 : decode cX5_init 18 = .ok (.newarray .int, 2) := by decide +kernel
theorem dX5_init_20 : decode cX5_init 20 = .ok (.putfield 18, 3) := by decide +kernel
theorem dX5_init_23 : decode cX5_init 23 = .ok (.aload_n 0, 1) := by decide +kernel
theorem dX5_init_24 : decode cX5_init 24 = .ok (.bipush 10, 2) := by decide +kernel
theorem dX5_init_26 : decode cX5_init 26 = .ok (.newarray .int, 2) := by decide +kernel
theorem dX5_init_28 : decode cX5_init 28 = .ok (.putfield 22, 3) := by decide +kernel
theorem dX5_init_31 : decode cX5_init 31 = .ok (.aload_n 0, 1) := by decide +kernel
theorem dX5_init_32 : decode cX5_init 32 = .ok (.bipush 10, 2) := by decide +kernel
theorem dX5_init_34 : decode cX5_init 34 = .ok (.newarray .int, 2) := by decide +kernel
theorem dX5_init_36 : decode cX5_init 36 = .ok (.putfield 25, 3) := by decide +kernel
theorem dX5_init_39 : decode cX5_init 39 = .ok (.aload_n 0, 1) := by decide +kernel
theorem dX5_init_40 : decode cX5_init 40 = .ok (.iconst 5, 1) := by decide +kernel
theorem dX5_init_41 : decode cX5_init 41 = .ok (.newarray .int, 2) := by decide +kernel
theorem dX5_init_43 : decode cX5_init 43 = .ok (.putfield 28, 3) := by decide +kernel
theorem dX5_init_46 : decode cX5_init 46 = .ok (.aload_n 0, 1) := by decide +kernel
theorem dX5_init_47 : decode cX5_init 47 = .ok (.iconst 5, 1) := by decide +kernel
theorem dX5_init_48 : decode cX5_init 48 = .ok (.newarray .int, 2) := by decide +kernel
theorem dX5_init_50 : decode cX5_init 50 = .ok (.putfield 31, 3) := by decide +kernel
theorem dX5_init_53 : decode cX5_init 53 = .ok (.aload_n 0, 1) := by decide +kernel
theorem dX5_init_54 : decode cX5_init 54 = .ok (.sipush 450, 3) := by decide +kernel
theorem dX5_init_57 : decode cX5_init 57 = .ok (.newarray .int, 2) := by decide +kernel
theorem dX5_init_59 : decode cX5_init 59 = .ok (.putfield 34, 3) := by decide +kernel
theorem dX5_init_62 : decode cX5_init 62 = .ok (.aload_n 0, 1) := by decide +kernel
theorem dX5_init_63 : decode cX5_init 63 = .ok (.bipush 6, 2) := by decide +kernel
theorem dX5_init_65 : decode cX5_init 65 = .ok (.newarray .int, 2) := by decide +kernel
theorem dX5_init_67 : decode cX5_init 67 = .ok (.putfield 39, 3) := by decide +kernel
theorem dX5_init_70 : decode cX5_init 70 = .ok (.aload_n 0, 1) := by decide +kernel
theorem dX5_init_71 : decode cX5_init 71 = .ok (.bipush 32, 2) := by decide +kernel
theorem dX5_init_73 : decode cX5_init 73 = .ok (.newarray .int, 2) := by decide +kernel
theorem dX5_init_75 : decode cX5_init 75 = .ok (.putfield 42, 3) := by decide +kernel
theorem dX5_init_78 : decode cX5_init 78 = .ok (.return_, 1) := by decide +kernel
theorem dX5_meet_0 : decode cX5_meet 0 = .ok (.aload_n 0, 1) := by decide +kernel
theorem dX5_meet_1 : decode cX5_meet 1 = .ok (.getfield 28, 3) := by decide +kernel
theorem dX5_meet_4 : decode cX5_meet 4 = .ok (.iload_n 1, 1) := by decide +kernel
theorem dX5_meet_5 : decode cX5_meet 5 = .ok (.iconst 0, 1) := by decide +kernel
theorem dX5_meet_6 : decode cX5_meet 6 = .ok (.iastore, 1) := by decide +kernel
theorem dX5_meet_7 : decode cX5_meet 7 = .ok (.aload_n 0, 1) := by decide +kernel
theorem dX5_meet_8 : decode cX5_meet 8 = .ok (.getfield 31, 3) := by decide +kernel
theorem dX5_meet_11 : decode cX5_meet 11 = .ok (.iload_n 1, 1) := by decide +kernel
theorem dX5_meet_12 : decode cX5_meet 12 = .ok (.iconst 0, 1) := by decide +kernel
theorem dX5_meet_13 : decode cX5_meet 13 = .ok (.iastore, 1) := by decide +kernel
theorem dX5_meet_14 : decode cX5_meet 14 = .ok (.iconst 0, 1) := by decide +kernel
theorem dX5_meet_15 : decode cX5_meet 15 = .ok (.istore_n 2, 1) := by decide +kernel
theorem dX5_meet_16 : decode cX5_meet 16 = .ok (.iload_n 2, 1) := by decide +kernel
theorem dX5_meet_17 : decode cX5_meet 17 = .ok (.iload_n 1, 1) := by decide +kernel
theorem dX5_meet_18 : decode cX5_meet 18 = .ok (.if_icmp .ge 199, 3) := by decide +kernel
theorem dX5_meet_21 : decode cX5_meet 21 = .ok (.aload_n 0, 1) := by decide +kernel
theorem dX5_meet_22 : decode cX5_meet 22 = .ok (.getfield 28, 3) := by decide +kernel
theorem dX5_meet_25 : decode cX5_meet 25 = .ok (.iload_n 2, 1) := by decide +kernel
theorem dX5_meet_26 : decode cX5_meet 26 = .ok (.dup2, 1) := by decide +kernel
theorem dX5_meet_27 : decode cX5_meet 27 = .ok (.iaload, 1) := by decide +kernel
theorem dX5_meet_28 : decode cX5_meet 28 = .ok (.iconst 1, 1) := by decide +kernel
theorem dX5_meet_29 : decode cX5_meet 29 = .ok (.iload_n 1, 1) := by decide +kernel
theorem dX5_meet_30 : decode cX5_meet 30 = .ok (.ishl, 1) := by decide +kernel
theorem dX5_meet_31 : decode cX5_meet 31 = .ok (.iconst (-1), 1) := by decide +kernel
theorem dX5_meet_32 : decode cX5_meet 32 = .ok (.ixor, 1) := by decide +kernel
theorem dX5_meet_33 : decode cX5_meet 33 = .ok (.iand, 1) := by decide +kernel
theorem dX5_meet_34 : decode cX5_meet 34 = .ok (.iastore, 1) := by decide +kernel
theorem dX5_meet_35 : decode cX5_meet 35 = .ok (.aload_n 0, 1) := by decide +kernel
theorem dX5_meet_36 : decode cX5_meet 36 = .ok (.getfield 31, 3) := by decide +kernel
theorem dX5_meet_39 : decode cX5_meet 39 = .ok (.iload_n 2, 1) := by decide +kernel
theorem dX5_meet_40 : decode cX5_meet 40 = .ok (.dup2, 1) := by decide +kernel
theorem dX5_meet_41 : decode cX5_meet 41 = .ok (.iaload, 1) := by decide +kernel
theorem dX5_meet_42 : decode cX5_meet 42 = .ok (.iconst 1, 1) := by decide +kernel
theorem dX5_meet_43 : decode cX5_meet 43 = .ok (.iload_n 1, 1) := by decide +kernel
theorem dX5_meet_44 : decode cX5_meet 44 = .ok (.ishl, 1) := by decide +kernel
theorem dX5_meet_45 : decode cX5_meet 45 = .ok (.iconst (-1), 1) := by decide +kernel
theorem dX5_meet_46 : decode cX5_meet 46 = .ok (.ixor, 1) := by decide +kernel
theorem dX5_meet_47 : decode cX5_meet 47 = .ok (.iand, 1) := by decide +kernel
theorem dX5_meet_48 : decode cX5_meet 48 = .ok (.iastore, 1) := by decide +kernel
theorem dX5_meet_49 : decode cX5_meet 49 = .ok (.aload_n 0, 1) := by decide +kernel
theorem dX5_meet_50 : decode cX5_meet 50 = .ok (.getfield 12, 3) := by decide +kernel
theorem dX5_meet_53 : decode cX5_meet 53 = .ok (.getfield 79, 3) := by decide +kernel
theorem dX5_meet_56 : decode cX5_meet 56 = .ok (.iload_n 2, 1) := by decide +kernel
theorem dX5_meet_57 : decode cX5_meet 57 = .ok (.iaload, 1) := by decide +kernel
theorem dX5_meet_58 : decode cX5_meet 58 = .ok (.iconst 1, 1) := by decide +kernel
theorem dX5_meet_59 : decode cX5_meet 59 = .ok (.iand, 1) := by decide +kernel
theorem dX5_meet_60 : decode cX5_meet 60 = .ok (.aload_n 0, 1) := by decide +kernel
theorem dX5_meet_61 : decode cX5_meet 61 = .ok (.getfield 12, 3) := by decide +kernel
theorem dX5_meet_64 : decode cX5_meet 64 = .ok (.getfield 79, 3) := by decide +kernel
theorem dX5_meet_67 : decode cX5_meet 67 = .ok (.iload_n 1, 1) := by decide +kernel
theorem dX5_meet_68 : decode cX5_meet 68 = .ok (.iaload, 1) := by decide +kernel
theorem dX5_meet_69 : decode cX5_meet 69 = .ok (.iconst 1, 1) := by decide +kernel
theorem dX5_meet_70 : decode cX5_meet 70 = .ok (.iand, 1) := by decide +kernel
theorem dX5_meet_71 : decode cX5_meet 71 = .ok (.if_icmp .ne 140, 3) := by decide +kernel
theorem dX5_meet_74 : decode cX5_meet 74 = .ok (.aload_n 0, 1) := by decide +kernel
theorem dX5_meet_75 : decode cX5_meet 75 = .ok (.getfield 12, 3) := by decide +kernel
theorem dX5_meet_78 : decode cX5_meet 78 = .ok (.getfield 79, 3) := by decide +kernel
theorem dX5_meet_81 : decode cX5_meet 81 = .ok (.iload_n 2, 1) := by decide +kernel
theorem dX5_meet_82 : decode cX5_meet 82 = .ok (.iaload, 1) := by decide +kernel
theorem dX5_meet_83 : decode cX5_meet 83 = .ok (.aload_n 0, 1) := by decide +kernel
theorem dX5_meet_84 : decode cX5_meet 84 = .ok (.getfield 12, 3) := by decide +kernel
theorem dX5_meet_87 : decode cX5_meet 87 = .ok (.getfield 79, 3) := by decide +kernel
theorem dX5_meet_90 : decode cX5_meet 90 = .ok (.iload_n 1, 1) := by decide +kernel
theorem dX5_meet_91 : decode cX5_meet 91 = .ok (.iaload, 1) := by decide +kernel
theorem dX5_meet_92 : decode cX5_meet 92 = .ok (.if_icmp .ne 6, 3) := by decide +kernel
theorem dX5_meet_95 : decode cX5_meet 95 = .ok (.goto 116, 3) := by decide +kernel
theorem dX5_meet_98 : decode cX5_meet 98 = .ok (.aload_n 0, 1) := by decide +kernel
theorem dX5_meet_99 : decode cX5_meet 99 = .ok (.getfield 12, 3) := by decide +kernel
theorem dX5_meet_102 : decode cX5_meet 102 = .ok (.getfield 79, 3) := by decide +kernel
theorem dX5_meet_105 : decode cX5_meet 105 = .ok (.iload_n 2, 1) := by decide +kernel
theorem dX5_meet_106 : decode cX5_meet 106 = .ok (.iaload, 1) := by decide +kernel
theorem dX5_meet_107 : decode cX5_meet 107 = .ok (.aload_n 0, 1) := by decide +kernel
theorem dX5_meet_108 : decode cX5_meet 108 = .ok (.getfield 12, 3) := by decide +kernel
theorem dX5_meet_111 : decode cX5_meet 111 = .ok (.getfield 79, 3) := by decide +kernel
theorem dX5_meet_114 : decode cX5_meet 114 = .ok (.iload_n 1, 1) := by decide +kernel
theorem dX5_meet_115 : decode cX5_meet 115 = .ok (.iaload, 1) := by decide +kernel
theorem dX5_meet_116 : decode cX5_meet 116 = .ok (.if_icmp .ge 7, 3) := by decide +kernel
theorem dX5_meet_119 : decode cX5_meet 119 = .ok (.iconst 1, 1) := by decide +kernel
theorem dX5_meet_120 : decode cX5_meet 120 = .ok (.goto 4, 3) := by decide +kernel
theorem dX5_meet_123 : decode cX5_meet 123 = .ok (.iconst 0, 1) := by decide +kernel
theorem dX5_meet_124 : decode cX5_meet 124 = .ok (.istore_n 3, 1) := by decide +kernel
theorem dX5_meet_125 : decode cX5_meet 125 = .ok (.aload_n 0, 1) := by decide +kernel
theorem dX5_meet_126 : decode cX5_meet 126 = .ok (.getfield 12, 3) := by decide +kernel
theorem dX5_meet_129 : decode cX5_meet 129 = .ok (.iload_n 2, 1) := by decide +kernel
theorem dX5_meet_130 : decode cX5_meet 130 = .ok (.aload_n 0, 1) := by decide +kernel
theorem dX5_meet_131 : decode cX5_meet 131 = .ok (.getfield 12, 3) := by decide +kernel
theorem dX5_meet_134 : decode cX5_meet 134 = .ok (.getfield 82, 3) := by decide +kernel
theorem dX5_meet_137 : decode cX5_meet 137 = .ok (.iload_n 1, 1) := by decide +kernel
theorem dX5_meet_138 : decode cX5_meet 138 = .ok (.iaload, 1) := by decide +kernel
theorem dX5_meet_139 : decode cX5_meet 139 = .ok (.invokevirtual 85, 3) := by decide +kernel
theorem dX5_meet_142 : decode cX5_meet 142 = .ok (.ifCond .ne 26, 3) := by decide +kernel
theorem dX5_meet_145 : decode cX5_meet 145 = .ok (.iload_n 3, 1) := by decide +kernel
theorem dX5_meet_146 : decode cX5_meet 146 = .ok (.ifCond .eq 10, 3) := by decide +kernel
theorem dX5_meet_149 : decode cX5_meet 149 = .ok (.aload_n 0, 1) := by decide +kernel
theorem dX5_meet_150 : decode cX5_meet 150 = .ok (.getfield 28, 3) := by decide +kernel
theorem dX5_meet_153 : decode cX5_meet 153 = .ok (.goto 7, 3) := by decide +kernel
theorem dX5_meet_156 : decode cX5_meet 156 = .ok (.aload_n 0, 1) := by decide +kernel
theorem dX5_meet_157 : decode cX5_meet 157 = .ok (.getfield 31, 3) := by decide +kernel
theorem dX5_meet_160 : decode cX5_meet 160 = .ok (.iload_n 1, 1) := by decide +kernel
theorem dX5_meet_161 : decode cX5_meet 161 = .ok (.dup2, 1) := by decide +kernel
theorem dX5_meet_162 : decode cX5_meet 162 = .ok (.iaload, 1) := by decide +kernel
theorem dX5_meet_163 : decode cX5_meet 163 = .ok (.iconst 1, 1) := by decide +kernel
theorem dX5_meet_164 : decode cX5_meet 164 = .ok (.iload_n 2, 1) := by decide +kernel
theorem dX5_meet_165 : decode cX5_meet 165 = .ok (.ishl, 1) := by decide +kernel
theorem dX5_meet_166 : decode cX5_meet 166 = .ok (.ior, 1) := by decide +kernel
theorem dX5_meet_167 : decode cX5_meet 167 = .ok (.iastore, 1) := by decide +kernel
theorem dX5_meet_168 : decode cX5_meet 168 = .ok (.aload_n 0, 1) := by decide +kernel
theorem dX5_meet_169 : decode cX5_meet 169 = .ok (.getfield 12, 3) := by decide +kernel
theorem dX5_meet_172 : decode cX5_meet 172 = .ok (.iload_n 1, 1) := by decide +kernel
theorem dX5_meet_173 : decode cX5_meet 173 = .ok (.aload_n 0, 1) := by decide +kernel
theorem dX5_meet_174 : decode cX5_meet 174 = .ok (.getfield 12, 3) := by decide +kernel
theorem dX5_meet_177 : decode cX5_meet 177 = .ok (.getfield 82, 3) := by decide +kernel
theorem dX5_meet_180 : decode cX5_meet 180 = .ok (.iload_n 2, 1) := by decide +kernel
theorem dX5_meet_181 : decode cX5_meet 181 = .ok (.iaload, 1) := by decide +kernel
theorem dX5_meet_182 : decode cX5_meet 182 = .ok (.invokevirtual 85, 3) := by decide +kernel
theorem dX5_meet_185 : decode cX5_meet 185 = .ok (.ifCond .ne 26, 3) := by decide +kernel
theorem dX5_meet_188 : decode cX5_meet 188 = .ok (.iload_n 3, 1) := by decide +kernel
theorem dX5_meet_189 : decode cX5_meet 189 = .ok (.ifCond .eq 10, 3) := by decide +kernel
theorem dX5_meet_192 : decode cX5_meet 192 = .ok (.aload_n 0, 1) := by decide +kernel
theorem dX5_meet_193 : decode cX5_meet 193 = .ok (.getfield 31, 3) := by decide +kernel
theorem dX5_meet_196 : decode cX5_meet 196 = .ok (.goto 7, 3) := by decide +kernel
theorem dX5_meet_199 : decode cX5_meet 199 = .ok (.aload_n 0, 1) := by decide +kernel
theorem dX5_meet_200 : decode cX5_meet 200 = .ok (.getfield 28, 3) := by decide +kernel
theorem dX5_meet_203 : decode cX5_meet 203 = .ok (.iload_n 2, 1) := by decide +kernel
theorem dX5_meet_204 : decode cX5_meet 204 = .ok (.dup2, 1) := by decide +kernel
theorem dX5_meet_205 : decode cX5_meet 205 = .ok (.iaload, 1) := by decide +kernel
theorem dX5_meet_206 : decode cX5_meet 206 = .ok (.iconst 1, 1) := by decide +kernel
theorem dX5_meet_207 : decode cX5_meet 207 = .ok (.iload_n 1, 1) := by decide +kernel
theorem dX5_meet_208 : decode cX5_meet 208 = .ok (.ishl, 1) := by decide +kernel
theorem dX5_meet_209 : decode cX5_meet 209 = .ok (.ior, 1) := by decide +kernel
theorem dX5_meet_210 : decode cX5_meet 210 = .ok (.iastore, 1) := by decide +kernel
theorem dX5_meet_211 : decode cX5_meet 211 = .ok (.iinc 2 1, 3) := by decide +kernel
theorem dX5_meet_214 : decode cX5_meet 214 = .ok (.goto (-198), 3) := by decide +kernel
theorem dX5_meet_217 : decode cX5_meet 217 = .ok (.return_, 1) := by decide +kernel
theorem dX5_price_0 : decode cX5_price 0 = .ok (.aload_n 0, 1) := by decide +kernel
theorem dX5_price_1 : decode cX5_price 1 = .ok (.getfield 12, 3) := by decide +kernel
theorem dX5_price_4 : decode cX5_price 4 = .ok (.getfield 79, 3) := by decide +kernel
theorem dX5_price_7 : decode cX5_price 7 = .ok (.iload_n 2, 1) := by decide +kernel
theorem dX5_price_8 : decode cX5_price 8 = .ok (.iaload, 1) := by decide +kernel
theorem dX5_price_9 : decode cX5_price 9 = .ok (.iconst 1, 1) := by decide +kernel
theorem dX5_price_10 : decode cX5_price 10 = .ok (.ishr, 1) := by decide +kernel
theorem dX5_price_11 : decode cX5_price 11 = .ok (.istore 5, 2) := by decide +kernel
theorem dX5_price_13 : decode cX5_price 13 = .ok (.iload_n 1, 1) := by decide +kernel
theorem dX5_price_14 : decode cX5_price 14 = .ok (.iconst 5, 1) := by decide +kernel
theorem dX5_price_15 : decode cX5_price 15 = .ok (.imul, 1) := by decide +kernel
theorem dX5_price_16 : decode cX5_price 16 = .ok (.iload_n 2, 1) := by decide +kernel
theorem dX5_price_17 : decode cX5_price 17 = .ok (.iadd, 1) := by decide +kernel
theorem dX5_price_18 : decode cX5_price 18 = .ok (.bipush 10, 2) := by decide +kernel
theorem dX5_price_20 : decode cX5_price 20 = .ok (.imul, 1) := by decide +kernel
theorem dX5_price_21 : decode cX5_price 21 = .ok (.iload_n 3, 1) := by decide +kernel
theorem dX5_price_22 : decode cX5_price 22 = .ok (.iadd, 1) := by decide +kernel
theorem dX5_price_23 : decode cX5_price 23 = .ok (.iconst 3, 1) := by decide +kernel
theorem dX5_price_24 : decode cX5_price 24 = .ok (.imul, 1) := by decide +kernel
theorem dX5_price_25 : decode cX5_price 25 = .ok (.iload 5, 2) := by decide +kernel
theorem dX5_price_27 : decode cX5_price 27 = .ok (.iadd, 1) := by decide +kernel
theorem dX5_price_28 : decode cX5_price 28 = .ok (.istore 6, 2) := by decide +kernel
theorem dX5_price_30 : decode cX5_price 30 = .ok (.iload 6, 2) := by decide +kernel
theorem dX5_price_32 : decode cX5_price 32 = .ok (.ifCond .lt 20, 3) := by decide +kernel
theorem dX5_price_35 : decode cX5_price 35 = .ok (.iload 6, 2) := by decide +kernel
theorem dX5_price_37 : decode cX5_price 37 = .ok (.aload_n 0, 1) := by decide +kernel
theorem dX5_price_38 : decode cX5_price 38 = .ok (.getfield 34, 3) := by decide +kernel
theorem dX5_price_41 : decode cX5_price 41 = .ok (.arraylength, 1) := by decide +kernel
theorem dX5_price_42 : decode cX5_price 42 = .ok (.if_icmp .ge 10, 3) := by decide +kernel
theorem dX5_price_45 : decode cX5_price 45 = .ok (.aload_n 0, 1) := by decide +kernel
theorem dX5_price_46 : decode cX5_price 46 = .ok (.getfield 49, 3) := by decide +kernel
theorem dX5_price_49 : decode cX5_price 49 = .ok (.ifnonnull 5, 3) := by decide +kernel
theorem dX5_price_52 : decode cX5_price 52 = .ok (.iconst 0, 1) := by decide +kernel
theorem dX5_price_53 : decode cX5_price 53 = .ok (.ireturn, 1) := by decide +kernel
theorem dX5_price_54 : decode cX5_price 54 = .ok (.aload_n 0, 1) := by decide +kernel
theorem dX5_price_55 : decode cX5_price 55 = .ok (.getfield 34, 3) := by decide +kernel
theorem dX5_price_58 : decode cX5_price 58 = .ok (.iload 6, 2) := by decide +kernel
theorem dX5_price_60 : decode cX5_price 60 = .ok (.iaload, 1) := by decide +kernel
theorem dX5_price_61 : decode cX5_price 61 = .ok (.iconst (-1), 1) := by decide +kernel
theorem dX5_price_62 : decode cX5_price 62 = .ok (.if_icmp .ne 95, 3) := by decide +kernel
theorem dX5_price_65 : decode cX5_price 65 = .ok (.aload_n 0, 1) := by decide +kernel
theorem dX5_price_66 : decode cX5_price 66 = .ok (.getfield 39, 3) := by decide +kernel
theorem dX5_price_69 : decode cX5_price 69 = .ok (.iconst 0, 1) := by decide +kernel
theorem dX5_price_70 : decode cX5_price 70 = .ok (.iload_n 2, 1) := by decide +kernel
theorem dX5_price_71 : decode cX5_price 71 = .ok (.iastore, 1) := by decide +kernel
theorem dX5_price_72 : decode cX5_price 72 = .ok (.aload_n 0, 1) := by decide +kernel
theorem dX5_price_73 : decode cX5_price 73 = .ok (.getfield 39, 3) := by decide +kernel
theorem dX5_price_76 : decode cX5_price 76 = .ok (.iconst 1, 1) := by decide +kernel
theorem dX5_price_77 : decode cX5_price 77 = .ok (.iload_n 3, 1) := by decide +kernel
theorem dX5_price_78 : decode cX5_price 78 = .ok (.iastore, 1) := by decide +kernel
theorem dX5_price_79 : decode cX5_price 79 = .ok (.aload_n 0, 1) := by decide +kernel
theorem dX5_price_80 : decode cX5_price 80 = .ok (.getfield 39, 3) := by decide +kernel
theorem dX5_price_83 : decode cX5_price 83 = .ok (.iconst 2, 1) := by decide +kernel
theorem dX5_price_84 : decode cX5_price 84 = .ok (.aload_n 0, 1) := by decide +kernel
theorem dX5_price_85 : decode cX5_price 85 = .ok (.getfield 12, 3) := by decide +kernel
theorem dX5_price_88 : decode cX5_price 88 = .ok (.getfield 82, 3) := by decide +kernel
theorem dX5_price_91 : decode cX5_price 91 = .ok (.iload_n 2, 1) := by decide +kernel
theorem dX5_price_92 : decode cX5_price 92 = .ok (.iaload, 1) := by decide +kernel
theorem dX5_price_93 : decode cX5_price 93 = .ok (.iastore, 1) := by decide +kernel
theorem dX5_price_94 : decode cX5_price 94 = .ok (.aload_n 0, 1) := by decide +kernel
theorem dX5_price_95 : decode cX5_price 95 = .ok (.getfield 39, 3) := by decide +kernel
theorem dX5_price_98 : decode cX5_price 98 = .ok (.iconst 3, 1) := by decide +kernel
theorem dX5_price_99 : decode cX5_price 99 = .ok (.iload 5, 2) := by decide +kernel
theorem dX5_price_101 : decode cX5_price 101 = .ok (.iastore, 1) := by decide +kernel
theorem dX5_price_102 : decode cX5_price 102 = .ok (.aload_n 0, 1) := by decide +kernel
theorem dX5_price_103 : decode cX5_price 103 = .ok (.getfield 39, 3) := by decide +kernel
theorem dX5_price_106 : decode cX5_price 106 = .ok (.iconst 4, 1) := by decide +kernel
theorem dX5_price_107 : decode cX5_price 107 = .ok (.aload_n 0, 1) := by decide +kernel
theorem dX5_price_108 : decode cX5_price 108 = .ok (.getfield 12, 3) := by decide +kernel
theorem dX5_price_111 : decode cX5_price 111 = .ok (.getfield 119, 3) := by decide +kernel
theorem dX5_price_114 : decode cX5_price 114 = .ok (.iload_n 2, 1) := by decide +kernel
theorem dX5_price_115 : decode cX5_price 115 = .ok (.iaload, 1) := by decide +kernel
theorem dX5_price_116 : decode cX5_price 116 = .ok (.iastore, 1) := by decide +kernel
theorem dX5_price_117 : decode cX5_price 117 = .ok (.aload_n 0, 1) := by decide +kernel
theorem dX5_price_118 : decode cX5_price 118 = .ok (.getfield 39, 3) := by decide +kernel
theorem dX5_price_121 : decode cX5_price 121 = .ok (.iconst 5, 1) := by decide +kernel
theorem dX5_price_122 : decode cX5_price 122 = .ok (.iload 4, 2) := by decide +kernel
theorem dX5_price_124 : decode cX5_price 124 = .ok (.iastore, 1) := by decide +kernel
theorem dX5_price_125 : decode cX5_price 125 = .ok (.aload_n 0, 1) := by decide +kernel
theorem dX5_price_126 : decode cX5_price 126 = .ok (.getfield 34, 3) := by decide +kernel
theorem dX5_price_129 : decode cX5_price 129 = .ok (.iload 6, 2) := by decide +kernel
theorem dX5_price_131 : decode cX5_price 131 = .ok (.iconst 0, 1) := by decide +kernel
theorem dX5_price_132 : decode cX5_price 132 = .ok (.bipush 99, 2) := by decide +kernel
theorem dX5_price_134 : decode cX5_price 134 = .ok (.aload_n 0, 1) := by decide +kernel
theorem dX5_price_135 : decode cX5_price 135 = .ok (.getfield 49, 3) := by decide +kernel
theorem dX5_price_138 : decode cX5_price 138 = .ok (.iload_n 1, 1) := by decide +kernel
theorem dX5_price_139 : decode cX5_price 139 = .ok (.aload_n 0, 1) := by decide +kernel
theorem dX5_price_140 : decode cX5_price 140 = .ok (.getfield 39, 3) := by decide +kernel
theorem dX5_price_143 : decode cX5_price 143 = .ok (.aload_n 0, 1) := by decide +kernel
theorem dX5_price_144 : decode cX5_price 144 = .ok (.getfield 42, 3) := by decide +kernel
theorem dX5_price_147 : decode cX5_price 147 = .ok (.invokevirtual 122, 3) := by decide +kernel
theorem dX5_price_150 : decode cX5_price 150 = .ok (.invokestatic 126, 3) := by decide +kernel
theorem dX5_price_153 : decode cX5_price 153 = .ok (.invokestatic 131, 3) := by decide +kernel
theorem dX5_price_156 : decode cX5_price 156 = .ok (.iastore, 1) := by decide +kernel
theorem dX5_price_157 : decode cX5_price 157 = .ok (.aload_n 0, 1) := by decide +kernel
theorem dX5_price_158 : decode cX5_price 158 = .ok (.getfield 34, 3) := by decide +kernel
theorem dX5_price_161 : decode cX5_price 161 = .ok (.iload 6, 2) := by decide +kernel
theorem dX5_price_163 : decode cX5_price 163 = .ok (.iaload, 1) := by decide +kernel
theorem dX5_price_164 : decode cX5_price 164 = .ok (.ireturn, 1) := by decide +kernel
theorem dX5_settle_0 : decode cX5_settle 0 = .ok (.iconst 0, 1) := by decide +kernel
theorem dX5_settle_1 : decode cX5_settle 1 = .ok (.istore_n 1, 1) := by decide +kernel
theorem dX5_settle_2 : decode cX5_settle 2 = .ok (.iload_n 1, 1) := by decide +kernel
theorem dX5_settle_3 : decode cX5_settle 3 = .ok (.aload_n 0, 1) := by decide +kernel
theorem dX5_settle_4 : decode cX5_settle 4 = .ok (.getfield 12, 3) := by decide +kernel
theorem dX5_settle_7 : decode cX5_settle 7 = .ok (.getfield 53, 3) := by decide +kernel
theorem dX5_settle_10 : decode cX5_settle 10 = .ok (.if_icmp .ge 14, 3) := by decide +kernel
theorem dX5_settle_13 : decode cX5_settle 13 = .ok (.aload_n 0, 1) := by decide +kernel
theorem dX5_settle_14 : decode cX5_settle 14 = .ok (.iload_n 1, 1) := by decide +kernel
theorem dX5_settle_15 : decode cX5_settle 15 = .ok (.invokevirtual 76, 3) := by decide +kernel
theorem dX5_settle_18 : decode cX5_settle 18 = .ok (.iinc 1 1, 3) := by decide +kernel
theorem dX5_settle_21 : decode cX5_settle 21 = .ok (.goto (-19), 3) := by decide +kernel
theorem dX5_settle_24 : decode cX5_settle 24 = .ok (.return_, 1) := by decide +kernel
theorem dX5_start_0 : decode cX5_start 0 = .ok (.aload_n 0, 1) := by decide +kernel
theorem dX5_start_1 : decode cX5_start 1 = .ok (.getfield 12, 3) := by decide +kernel
theorem dX5_start_4 : decode cX5_start 4 = .ok (.aload_n 1, 1) := by decide +kernel
theorem dX5_start_5 : decode cX5_start 5 = .ok (.invokevirtual 45, 3) := by decide +kernel
theorem dX5_start_8 : decode cX5_start 8 = .ok (.aload_n 0, 1) := by decide +kernel
theorem dX5_start_9 : decode cX5_start 9 = .ok (.aload_n 2, 1) := by decide +kernel
theorem dX5_start_10 : decode cX5_start 10 = .ok (.putfield 49, 3) := by decide +kernel
theorem dX5_start_13 : decode cX5_start 13 = .ok (.aload_n 0, 1) := by decide +kernel
theorem dX5_start_14 : decode cX5_start 14 = .ok (.iconst 1, 1) := by decide +kernel
theorem dX5_start_15 : decode cX5_start 15 = .ok (.aload_n 0, 1) := by decide +kernel
theorem dX5_start_16 : decode cX5_start 16 = .ok (.getfield 12, 3) := by decide +kernel
theorem dX5_start_19 : decode cX5_start 19 = .ok (.getfield 53, 3) := by decide +kernel
theorem dX5_start_22 : decode cX5_start 22 = .ok (.ishl, 1) := by decide +kernel
theorem dX5_start_23 : decode cX5_start 23 = .ok (.iconst 1, 1) := by decide +kernel
theorem dX5_start_24 : decode cX5_start 24 = .ok (.isub, 1) := by decide +kernel
theorem dX5_start_25 : decode cX5_start 25 = .ok (.invokevirtual 57, 3) := by decide +kernel
theorem dX5_start_28 : decode cX5_start 28 = .ok (.return_, 1) := by decide +kernel
theorem dX5_steps_0 : decode cX5_steps 0 = .ok (.iconst 0, 1) := by decide +kernel
theorem dX5_steps_1 : decode cX5_steps 1 = .ok (.istore_n 1, 1) := by decide +kernel
theorem dX5_steps_2 : decode cX5_steps 2 = .ok (.iconst 0, 1) := by decide +kernel
theorem dX5_steps_3 : decode cX5_steps 3 = .ok (.istore_n 2, 1) := by decide +kernel
theorem dX5_steps_4 : decode cX5_steps 4 = .ok (.iload_n 2, 1) := by decide +kernel
theorem dX5_steps_5 : decode cX5_steps 5 = .ok (.bipush 10, 2) := by decide +kernel
theorem dX5_steps_7 : decode cX5_steps 7 = .ok (.if_icmp .ge 20, 3) := by decide +kernel
theorem dX5_steps_10 : decode cX5_steps 10 = .ok (.iload_n 1, 1) := by decide +kernel
theorem dX5_steps_11 : decode cX5_steps 11 = .ok (.aload_n 0, 1) := by decide +kernel
theorem dX5_steps_12 : decode cX5_steps 12 = .ok (.iload_n 2, 1) := by decide +kernel
theorem dX5_steps_13 : decode cX5_steps 13 = .ok (.invokevirtual 113, 3) := by decide +kernel
theorem dX5_steps_16 : decode cX5_steps 16 = .ok (.invokestatic 96, 3) := by decide +kernel
theorem dX5_steps_19 : decode cX5_steps 19 = .ok (.iadd, 1) := by decide +kernel
theorem dX5_steps_20 : decode cX5_steps 20 = .ok (.istore_n 1, 1) := by decide +kernel
theorem dX5_steps_21 : decode cX5_steps 21 = .ok (.iinc 2 1, 3) := by decide +kernel
theorem dX5_steps_24 : decode cX5_steps 24 = .ok (.goto (-20), 3) := by decide +kernel
theorem dX5_steps_27 : decode cX5_steps 27 = .ok (.iload_n 1, 1) := by decide +kernel
theorem dX5_steps_28 : decode cX5_steps 28 = .ok (.ireturn, 1) := by decide +kernel
theorem dX5_whoGoesOn_0 : decode cX5_whoGoesOn 0 = .ok (.aload_n 0, 1) := by decide +kernel
theorem dX5_whoGoesOn_1 : decode cX5_whoGoesOn 1 = .ok (.getfield 18, 3) := by decide +kernel
theorem dX5_whoGoesOn_4 : decode cX5_whoGoesOn 4 = .ok (.iload_n 1, 1) := by decide +kernel
theorem dX5_whoGoesOn_5 : decode cX5_whoGoesOn 5 = .ok (.iaload, 1) := by decide +kernel
theorem dX5_whoGoesOn_6 : decode cX5_whoGoesOn 6 = .ok (.aload_n 0, 1) := by decide +kernel
theorem dX5_whoGoesOn_7 : decode cX5_whoGoesOn 7 = .ok (.getfield 25, 3) := by decide +kernel
theorem dX5_whoGoesOn_10 : decode cX5_whoGoesOn 10 = .ok (.iload_n 1, 1) := by decide +kernel
theorem dX5_whoGoesOn_11 : decode cX5_whoGoesOn 11 = .ok (.iaload, 1) := by decide +kernel
theorem dX5_whoGoesOn_12 : decode cX5_whoGoesOn 12 = .ok (.ior, 1) := by decide +kernel
theorem dX5_whoGoesOn_13 : decode cX5_whoGoesOn 13 = .ok (.ireturn, 1) := by decide +kernel
theorem dX5_whoMakesWay_0 : decode cX5_whoMakesWay 0 = .ok (.aload_n 0, 1) := by decide +kernel
theorem dX5_whoMakesWay_1 : decode cX5_whoMakesWay 1 = .ok (.getfield 28, 3) := by decide +kernel
theorem dX5_whoMakesWay_4 : decode cX5_whoMakesWay 4 = .ok (.iload_n 1, 1) := by decide +kernel
theorem dX5_whoMakesWay_5 : decode cX5_whoMakesWay 5 = .ok (.iaload, 1) := by decide +kernel
theorem dX5_whoMakesWay_6 : decode cX5_whoMakesWay 6 = .ok (.iload_n 2, 1) := by decide +kernel
theorem dX5_whoMakesWay_7 : decode cX5_whoMakesWay 7 = .ok (.iand, 1) := by decide +kernel
theorem dX5_whoMakesWay_8 : decode cX5_whoMakesWay 8 = .ok (.istore_n 3, 1) := by decide +kernel
theorem dX5_whoMakesWay_9 : decode cX5_whoMakesWay 9 = .ok (.aload_n 0, 1) := by decide +kernel
theorem dX5_whoMakesWay_10 : decode cX5_whoMakesWay 10 = .ok (.getfield 12, 3) := by decide +kernel
theorem dX5_whoMakesWay_13 : decode cX5_whoMakesWay 13 = .ok (.getfield 93, 3) := by decide +kernel
theorem dX5_whoMakesWay_16 : decode cX5_whoMakesWay 16 = .ok (.iconst 2, 1) := by decide +kernel
theorem dX5_whoMakesWay_17 : decode cX5_whoMakesWay 17 = .ok (.if_icmp .eq 5, 3) := by decide +kernel
theorem dX5_whoMakesWay_20 : decode cX5_whoMakesWay 20 = .ok (.iload_n 3, 1) := by decide +kernel
theorem dX5_whoMakesWay_21 : decode cX5_whoMakesWay 21 = .ok (.ireturn, 1) := by decide +kernel
theorem dX5_whoMakesWay_22 : decode cX5_whoMakesWay 22 = .ok (.aload_n 0, 1) := by decide +kernel
theorem dX5_whoMakesWay_23 : decode cX5_whoMakesWay 23 = .ok (.getfield 31, 3) := by decide +kernel
theorem dX5_whoMakesWay_26 : decode cX5_whoMakesWay 26 = .ok (.iload_n 1, 1) := by decide +kernel
theorem dX5_whoMakesWay_27 : decode cX5_whoMakesWay 27 = .ok (.iaload, 1) := by decide +kernel
theorem dX5_whoMakesWay_28 : decode cX5_whoMakesWay 28 = .ok (.iload_n 2, 1) := by decide +kernel
theorem dX5_whoMakesWay_29 : decode cX5_whoMakesWay 29 = .ok (.iand, 1) := by decide +kernel
theorem dX5_whoMakesWay_30 : decode cX5_whoMakesWay 30 = .ok (.istore 4, 2) := by decide +kernel
theorem dX5_whoMakesWay_32 : decode cX5_whoMakesWay 32 = .ok (.iload 4, 2) := by decide +kernel
theorem dX5_whoMakesWay_34 : decode cX5_whoMakesWay 34 = .ok (.invokestatic 96, 3) := by decide +kernel
theorem dX5_whoMakesWay_37 : decode cX5_whoMakesWay 37 = .ok (.iload_n 3, 1) := by decide +kernel
theorem dX5_whoMakesWay_38 : decode cX5_whoMakesWay 38 = .ok (.invokestatic 96, 3) := by decide +kernel
theorem dX5_whoMakesWay_41 : decode cX5_whoMakesWay 41 = .ok (.if_icmp .ge 8, 3) := by decide +kernel
theorem dX5_whoMakesWay_44 : decode cX5_whoMakesWay 44 = .ok (.iload 4, 2) := by decide +kernel
theorem dX5_whoMakesWay_46 : decode cX5_whoMakesWay 46 = .ok (.goto 4, 3) := by decide +kernel
theorem dX5_whoMakesWay_49 : decode cX5_whoMakesWay 49 = .ok (.iload_n 3, 1) := by decide +kernel
theorem dX5_whoMakesWay_50 : decode cX5_whoMakesWay 50 = .ok (.ireturn, 1) := by decide +kernel
theorem dX5_whoStepsOut_0 : decode cX5_whoStepsOut 0 = .ok (.iconst 0, 1) := by decide +kernel
theorem dX5_whoStepsOut_1 : decode cX5_whoStepsOut 1 = .ok (.istore_n 2, 1) := by decide +kernel
theorem dX5_whoStepsOut_2 : decode cX5_whoStepsOut 2 = .ok (.aload_n 0, 1) := by decide +kernel
theorem dX5_whoStepsOut_3 : decode cX5_whoStepsOut 3 = .ok (.getfield 18, 3) := by decide +kernel
theorem dX5_whoStepsOut_6 : decode cX5_whoStepsOut 6 = .ok (.iload_n 1, 1) := by decide +kernel
theorem dX5_whoStepsOut_7 : decode cX5_whoStepsOut 7 = .ok (.iaload, 1) := by decide +kernel
theorem dX5_whoStepsOut_8 : decode cX5_whoStepsOut 8 = .ok (.istore_n 3, 1) := by decide +kernel
theorem dX5_whoStepsOut_9 : decode cX5_whoStepsOut 9 = .ok (.iload_n 3, 1) := by decide +kernel
theorem dX5_whoStepsOut_10 : decode cX5_whoStepsOut 10 = .ok (.ifCond .ne 14, 3) := by decide +kernel
theorem dX5_whoStepsOut_13 : decode cX5_whoStepsOut 13 = .ok (.aload_n 0, 1) := by decide +kernel
theorem dX5_whoStepsOut_14 : decode cX5_whoStepsOut 14 = .ok (.getfield 25, 3) := by decide +kernel
theorem dX5_whoStepsOut_17 : decode cX5_whoStepsOut 17 = .ok (.iload_n 1, 1) := by decide +kernel
theorem dX5_whoStepsOut_18 : decode cX5_whoStepsOut 18 = .ok (.iaload, 1) := by decide +kernel
theorem dX5_whoStepsOut_19 : decode cX5_whoStepsOut 19 = .ok (.ifCond .ne 5, 3) := by decide +kernel
theorem dX5_whoStepsOut_22 : decode cX5_whoStepsOut 22 = .ok (.iconst 0, 1) := by decide +kernel
theorem dX5_whoStepsOut_23 : decode cX5_whoStepsOut 23 = .ok (.ireturn, 1) := by decide +kernel
theorem dX5_whoStepsOut_24 : decode cX5_whoStepsOut 24 = .ok (.iconst 0, 1) := by decide +kernel
theorem dX5_whoStepsOut_25 : decode cX5_whoStepsOut 25 = .ok (.istore 4, 2) := by decide +kernel
theorem dX5_whoStepsOut_27 : decode cX5_whoStepsOut 27 = .ok (.iload 4, 2) := by decide +kernel
theorem dX5_whoStepsOut_29 : decode cX5_whoStepsOut 29 = .ok (.aload_n 0, 1) := by decide +kernel
theorem dX5_whoStepsOut_30 : decode cX5_whoStepsOut 30 = .ok (.getfield 12, 3) := by decide +kernel
theorem dX5_whoStepsOut_33 : decode cX5_whoStepsOut 33 = .ok (.getfield 53, 3) := by decide +kernel
theorem dX5_whoStepsOut_36 : decode cX5_whoStepsOut 36 = .ok (.if_icmp .ge 72, 3) := by decide +kernel
theorem dX5_whoStepsOut_39 : decode cX5_whoStepsOut 39 = .ok (.aload_n 0, 1) := by decide +kernel
theorem dX5_whoStepsOut_40 : decode cX5_whoStepsOut 40 = .ok (.getfield 22, 3) := by decide +kernel
theorem dX5_whoStepsOut_43 : decode cX5_whoStepsOut 43 = .ok (.iload_n 1, 1) := by decide +kernel
theorem dX5_whoStepsOut_44 : decode cX5_whoStepsOut 44 = .ok (.iaload, 1) := by decide +kernel
theorem dX5_whoStepsOut_45 : decode cX5_whoStepsOut 45 = .ok (.iload 4, 2) := by decide +kernel
theorem dX5_whoStepsOut_47 : decode cX5_whoStepsOut 47 = .ok (.ishr, 1) := by decide +kernel
theorem dX5_whoStepsOut_48 : decode cX5_whoStepsOut 48 = .ok (.iconst 1, 1) := by decide +kernel
theorem dX5_whoStepsOut_49 : decode cX5_whoStepsOut 49 = .ok (.iand, 1) := by decide +kernel
theorem dX5_whoStepsOut_50 : decode cX5_whoStepsOut 50 = .ok (.ifCond .eq 21, 3) := by decide +kernel
theorem dX5_whoStepsOut_53 : decode cX5_whoStepsOut 53 = .ok (.iload_n 2, 1) := by decide +kernel
theorem dX5_whoStepsOut_54 : decode cX5_whoStepsOut 54 = .ok (.aload_n 0, 1) := by decide +kernel
theorem dX5_whoStepsOut_55 : decode cX5_whoStepsOut 55 = .ok (.iload 4, 2) := by decide +kernel
theorem dX5_whoStepsOut_57 : decode cX5_whoStepsOut 57 = .ok (.aload_n 0, 1) := by decide +kernel
theorem dX5_whoStepsOut_58 : decode cX5_whoStepsOut 58 = .ok (.getfield 18, 3) := by decide +kernel
theorem dX5_whoStepsOut_61 : decode cX5_whoStepsOut 61 = .ok (.iload_n 1, 1) := by decide +kernel
theorem dX5_whoStepsOut_62 : decode cX5_whoStepsOut 62 = .ok (.iaload, 1) := by decide +kernel
theorem dX5_whoStepsOut_63 : decode cX5_whoStepsOut 63 = .ok (.invokevirtual 89, 3) := by decide +kernel
theorem dX5_whoStepsOut_66 : decode cX5_whoStepsOut 66 = .ok (.ior, 1) := by decide +kernel
theorem dX5_whoStepsOut_67 : decode cX5_whoStepsOut 67 = .ok (.istore_n 2, 1) := by decide +kernel
theorem dX5_whoStepsOut_68 : decode cX5_whoStepsOut 68 = .ok (.goto 34, 3) := by decide +kernel
theorem dX5_whoStepsOut_71 : decode cX5_whoStepsOut 71 = .ok (.aload_n 0, 1) := by decide +kernel
theorem dX5_whoStepsOut_72 : decode cX5_whoStepsOut 72 = .ok (.getfield 25, 3) := by decide +kernel
theorem dX5_whoStepsOut_75 : decode cX5_whoStepsOut 75 = .ok (.iload_n 1, 1) := by decide +kernel
theorem dX5_whoStepsOut_76 : decode cX5_whoStepsOut 76 = .ok (.iaload, 1) := by decide +kernel
theorem dX5_whoStepsOut_77 : decode cX5_whoStepsOut 77 = .ok (.iload 4, 2) := by decide +kernel
theorem dX5_whoStepsOut_79 : decode cX5_whoStepsOut 79 = .ok (.ishr, 1) := by decide +kernel
theorem dX5_whoStepsOut_80 : decode cX5_whoStepsOut 80 = .ok (.iconst 1, 1) := by decide +kernel
theorem dX5_whoStepsOut_81 : decode cX5_whoStepsOut 81 = .ok (.iand, 1) := by decide +kernel
theorem dX5_whoStepsOut_82 : decode cX5_whoStepsOut 82 = .ok (.ifCond .eq 20, 3) := by decide +kernel
theorem dX5_whoStepsOut_85 : decode cX5_whoStepsOut 85 = .ok (.iload_n 2, 1) := by decide +kernel
theorem dX5_whoStepsOut_86 : decode cX5_whoStepsOut 86 = .ok (.aload_n 0, 1) := by decide +kernel
theorem dX5_whoStepsOut_87 : decode cX5_whoStepsOut 87 = .ok (.iload 4, 2) := by decide +kernel
theorem dX5_whoStepsOut_89 : decode cX5_whoStepsOut 89 = .ok (.iload_n 3, 1) := by decide +kernel
theorem dX5_whoStepsOut_90 : decode cX5_whoStepsOut 90 = .ok (.invokevirtual 89, 3) := by decide +kernel
theorem dX5_whoStepsOut_93 : decode cX5_whoStepsOut 93 = .ok (.ior, 1) := by decide +kernel
theorem dX5_whoStepsOut_94 : decode cX5_whoStepsOut 94 = .ok (.istore_n 2, 1) := by decide +kernel
theorem dX5_whoStepsOut_95 : decode cX5_whoStepsOut 95 = .ok (.iload_n 3, 1) := by decide +kernel
theorem dX5_whoStepsOut_96 : decode cX5_whoStepsOut 96 = .ok (.iconst 1, 1) := by decide +kernel
theorem dX5_whoStepsOut_97 : decode cX5_whoStepsOut 97 = .ok (.iload 4, 2) := by decide +kernel
theorem dX5_whoStepsOut_99 : decode cX5_whoStepsOut 99 = .ok (.ishl, 1) := by decide +kernel
theorem dX5_whoStepsOut_100 : decode cX5_whoStepsOut 100 = .ok (.ior, 1) := by decide +kernel
theorem dX5_whoStepsOut_101 : decode cX5_whoStepsOut 101 = .ok (.istore_n 3, 1) := by decide +kernel
theorem dX5_whoStepsOut_102 : decode cX5_whoStepsOut 102 = .ok (.iinc 4 1, 3) := by decide +kernel
theorem dX5_whoStepsOut_105 : decode cX5_whoStepsOut 105 = .ok (.goto (-78), 3) := by decide +kernel
theorem dX5_whoStepsOut_108 : decode cX5_whoStepsOut 108 = .ok (.iload_n 2, 1) := by decide +kernel
theorem dX5_whoStepsOut_109 : decode cX5_whoStepsOut 109 = .ok (.ireturn, 1) := by decide +kernel
theorem dX6_back_0 : decode cX6_back 0 = .ok (.aload_n 0, 1) := by decide +kernel
theorem dX6_back_1 : decode cX6_back 1 = .ok (.getfield 241, 3) := by decide +kernel
theorem dX6_back_4 : decode cX6_back 4 = .ok (.ifCond .ne 6, 3) := by decide +kernel
theorem dX6_back_7 : decode cX6_back 7 = .ok (.bipush (-3), 2) := by decide +kernel
theorem dX6_back_9 : decode cX6_back 9 = .ok (.ireturn, 1) := by decide +kernel
theorem dX6_back_10 : decode cX6_back 10 = .ok (.aload_n 0, 1) := by decide +kernel
theorem dX6_back_11 : decode cX6_back 11 = .ok (.getfield 10, 3) := by decide +kernel
theorem dX6_back_14 : decode cX6_back 14 = .ok (.aload_n 0, 1) := by decide +kernel
theorem dX6_back_15 : decode cX6_back 15 = .ok (.getfield 16, 3) := by decide +kernel
theorem dX6_back_18 : decode cX6_back 18 = .ok (.invokevirtual 238, 3) := by decide +kernel
theorem dX6_back_21 : decode cX6_back 21 = .ok (.aload_n 0, 1) := by decide +kernel
theorem dX6_back_22 : decode cX6_back 22 = .ok (.getfield 10, 3) := by decide +kernel
theorem dX6_back_25 : decode cX6_back 25 = .ok (.getfield 98, 3) := by decide +kernel
theorem dX6_back_28 : decode cX6_back 28 = .ok (.ireturn, 1) := by decide +kernel
theorem dX6_cell_0 : decode cX6_cell 0 = .ok (.iload_n 1, 1) := by decide +kernel
theorem dX6_cell_1 : decode cX6_cell 1 = .ok (.invokestatic 214, 3) := by decide +kernel
theorem dX6_cell_4 : decode cX6_cell 4 = .ok (.ifCond .ne 6, 3) := by decide +kernel
theorem dX6_cell_7 : decode cX6_cell 7 = .ok (.bipush (-2), 2) := by decide +kernel
theorem dX6_cell_9 : decode cX6_cell 9 = .ok (.ireturn, 1) := by decide +kernel
theorem dX6_cell_10 : decode cX6_cell 10 = .ok (.aload_n 0, 1) := by decide +kernel
theorem dX6_cell_11 : decode cX6_cell 11 = .ok (.getfield 34, 3) := by decide +kernel
theorem dX6_cell_14 : decode cX6_cell 14 = .ok (.iload_n 1, 1) := by decide +kernel
theorem dX6_cell_15 : decode cX6_cell 15 = .ok (.aaload, 1) := by decide +kernel
theorem dX6_cell_16 : decode cX6_cell 16 = .ok (.astore 4, 2) := by decide +kernel
theorem dX6_cell_18 : decode cX6_cell 18 = .ok (.aload 4, 2) := by decide +kernel
theorem dX6_cell_20 : decode cX6_cell 20 = .ok (.invokevirtual 245, 3) := by decide +kernel
theorem dX6_cell_23 : decode cX6_cell 23 = .ok (.ifCond .eq 6, 3) := by decide +kernel
theorem dX6_cell_26 : decode cX6_cell 26 = .ok (.bipush (-11), 2) := by decide +kernel
theorem dX6_cell_28 : decode cX6_cell 28 = .ok (.ireturn, 1) := by decide +kernel
theorem dX6_cell_29 : decode cX6_cell 29 = .ok (.iload_n 2, 1) := by decide +kernel

theorem dX6_cell_30 : decode cX6_cell 30 = .ok (.ifCond .lt 12, 3) := by decide +kernel
theorem dX6_cell_33 : decode cX6_cell 33 = .ok (.iload_n 2, 1) := by decide +kernel
theorem dX6_cell_34 : decode cX6_cell 34 = .ok (.aload 4, 2) := by decide +kernel
theorem dX6_cell_36 : decode cX6_cell 36 = .ok (.getfield 248, 3) := by decide +kernel
theorem dX6_cell_39 : decode cX6_cell 39 = .ok (.if_icmp .lt 6, 3) := by decide +kernel
theorem dX6_cell_42 : decode cX6_cell 42 = .ok (.bipush (-12), 2) := by decide +kernel
theorem dX6_cell_44 : decode cX6_cell 44 = .ok (.ireturn, 1) := by decide +kernel
theorem dX6_cell_45 : decode cX6_cell 45 = .ok (.aload 4, 2) := by decide +kernel
theorem dX6_cell_47 : decode cX6_cell 47 = .ok (.getfield 232, 3) := by decide +kernel
theorem dX6_cell_50 : decode cX6_cell 50 = .ok (.iload_n 2, 1) := by decide +kernel
theorem dX6_cell_51 : decode cX6_cell 51 = .ok (.aload 4, 2) := by decide +kernel
theorem dX6_cell_53 : decode cX6_cell 53 = .ok (.iload_n 3, 1) := by decide +kernel
theorem dX6_cell_54 : decode cX6_cell 54 = .ok (.invokevirtual 250, 3) := by decide +kernel
theorem dX6_cell_57 : decode cX6_cell 57 = .ok (.iastore, 1) := by decide +kernel
theorem dX6_cell_58 : decode cX6_cell 58 = .ok (.iconst 1, 1) := by decide +kernel
theorem dX6_cell_59 : decode cX6_cell 59 = .ok (.ireturn, 1) := by decide +kernel
theorem dX6_chance_0 : decode cX6_chance 0 = .ok (.iload_n 2, 1) := by decide +kernel
theorem dX6_chance_1 : decode cX6_chance 1 = .ok (.iconst 1, 1) := by decide +kernel
theorem dX6_chance_2 : decode cX6_chance 2 = .ok (.if_icmp .lt 18, 3) := by decide +kernel
theorem dX6_chance_5 : decode cX6_chance 5 = .ok (.iload_n 2, 1) := by decide +kernel
theorem dX6_chance_6 : decode cX6_chance 6 = .ok (.bipush 20, 2) := by decide +kernel
theorem dX6_chance_8 : decode cX6_chance 8 = .ok (.if_icmp .gt 12, 3) := by decide +kernel
theorem dX6_chance_11 : decode cX6_chance 11 = .ok (.iload_n 3, 1) := by decide +kernel
theorem dX6_chance_12 : decode cX6_chance 12 = .ok (.ifCond .lt 8, 3) := by decide +kernel
theorem dX6_chance_15 : decode cX6_chance 15 = .ok (.iload_n 3, 1) := by decide +kernel
theorem dX6_chance_16 : decode cX6_chance 16 = .ok (.iconst 1, 1) := by decide +kernel
theorem dX6_chance_17 : decode cX6_chance 17 = .ok (.if_icmp .le 7, 3) := by decide +kernel
theorem dX6_chance_20 : decode cX6_chance 20 = .ok (.ldc2_w 195, 3) := by decide +kernel
theorem dX6_chance_23 : decode cX6_chance 23 = .ok (.lreturn, 1) := by decide +kernel
theorem dX6_chance_24 : decode cX6_chance 24 = .ok (.aload_n 0, 1) := by decide +kernel
theorem dX6_chance_25 : decode cX6_chance 25 = .ok (.invokevirtual 145, 3) := by decide +kernel
theorem dX6_chance_28 : decode cX6_chance 28 = .ok (.aload_n 0, 1) := by decide +kernel
theorem dX6_chance_29 : decode cX6_chance 29 = .ok (.getfield 41, 3) := by decide +kernel
theorem dX6_chance_32 : decode cX6_chance 32 = .ok (.invokevirtual 148, 3) := by decide +kernel
theorem dX6_chance_35 : decode cX6_chance 35 = .ok (.istore 4, 2) := by decide +kernel
theorem dX6_chance_37 : decode cX6_chance 37 = .ok (.iconst 0, 1) := by decide +kernel
theorem dX6_chance_38 : decode cX6_chance 38 = .ok (.istore 5, 2) := by decide +kernel
theorem dX6_chance_40 : decode cX6_chance 40 = .ok (.iconst 0, 1) := by decide +kernel
theorem dX6_chance_41 : decode cX6_chance 41 = .ok (.istore 6, 2) := by decide +kernel
theorem dX6_chance_43 : decode cX6_chance 43 = .ok (.iload 6, 2) := by decide +kernel
theorem dX6_chance_45 : decode cX6_chance 45 = .ok (.iload_n 2, 1) := by decide +kernel
theorem dX6_chance_46 : decode cX6_chance 46 = .ok (.if_icmp .ge 25, 3) := by decide +kernel
theorem dX6_chance_49 : decode cX6_chance 49 = .ok (.aload_n 0, 1) := by decide +kernel
theorem dX6_chance_50 : decode cX6_chance 50 = .ok (.iload_n 1, 1) := by decide +kernel
theorem dX6_chance_51 : decode cX6_chance 51 = .ok (.iload 6, 2) := by decide +kernel
theorem dX6_chance_53 : decode cX6_chance 53 = .ok (.iadd, 1) := by decide +kernel
theorem dX6_chance_54 : decode cX6_chance 54 = .ok (.invokevirtual 235, 3) := by decide +kernel
theorem dX6_chance_57 : decode cX6_chance 57 = .ok (.iload 4, 2) := by decide +kernel
theorem dX6_chance_59 : decode cX6_chance 59 = .ok (.if_icmp .gt 6, 3) := by decide +kernel
theorem dX6_chance_62 : decode cX6_chance 62 = .ok (.iinc 5 1, 3) := by decide +kernel
theorem dX6_chance_65 : decode cX6_chance 65 = .ok (.iinc 6 1, 3) := by decide +kernel
theorem dX6_chance_68 : decode cX6_chance 68 = .ok (.goto (-25), 3) := by decide +kernel
theorem dX6_chance_71 : decode cX6_chance 71 = .ok (.iload 5, 2) := by decide +kernel
theorem dX6_chance_73 : decode cX6_chance 73 = .ok (.i2l, 1) := by decide +kernel
theorem dX6_chance_74 : decode cX6_chance 74 = .ok (.iload_n 2, 1) := by decide +kernel
theorem dX6_chance_75 : decode cX6_chance 75 = .ok (.i2l, 1) := by decide +kernel
theorem dX6_chance_76 : decode cX6_chance 76 = .ok (.iload_n 3, 1) := by decide +kernel
theorem dX6_chance_77 : decode cX6_chance 77 = .ok (.invokestatic 207, 3) := by decide +kernel
theorem dX6_chance_80 : decode cX6_chance 80 = .ok (.lreturn, 1) := by decide +kernel
theorem dX6_change_0 : decode cX6_change 0 = .ok (.iload_n 1, 1) := by decide +kernel
theorem dX6_change_1 : decode cX6_change 1 = .ok (.ifCond .lt 8, 3) := by decide +kernel
theorem dX6_change_4 : decode cX6_change 4 = .ok (.iload_n 1, 1) := by decide +kernel
theorem dX6_change_5 : decode cX6_change 5 = .ok (.iconst 1, 1) := by decide +kernel
theorem dX6_change_6 : decode cX6_change 6 = .ok (.if_icmp .le 6, 3) := by decide +kernel
theorem dX6_change_9 : decode cX6_change 9 = .ok (.bipush (-2), 2) := by decide +kernel
theorem dX6_change_11 : decode cX6_change 11 = .ok (.ireturn, 1) := by decide +kernel
theorem dX6_change_12 : decode cX6_change 12 = .ok (.aload_n 0, 1) := by decide +kernel
theorem dX6_change_13 : decode cX6_change 13 = .ok (.invokevirtual 145, 3) := by decide +kernel
theorem dX6_change_16 : decode cX6_change 16 = .ok (.iconst (-1), 1) := by decide +kernel
theorem dX6_change_17 : decode cX6_change 17 = .ok (.istore_n 2, 1) := by decide +kernel
theorem dX6_change_18 : decode cX6_change 18 = .ok (.aload_n 0, 1) := by decide +kernel
theorem dX6_change_19 : decode cX6_change 19 = .ok (.getfield 41, 3) := by decide +kernel
theorem dX6_change_22 : decode cX6_change 22 = .ok (.invokevirtual 148, 3) := by decide +kernel
theorem dX6_change_25 : decode cX6_change 25 = .ok (.istore_n 3, 1) := by decide +kernel
theorem dX6_change_26 : decode cX6_change 26 = .ok (.iconst 0, 1) := by decide +kernel
theorem dX6_change_27 : decode cX6_change 27 = .ok (.istore 4, 2) := by decide +kernel
theorem dX6_change_29 : decode cX6_change 29 = .ok (.iload 4, 2) := by decide +kernel
theorem dX6_change_31 : decode cX6_change 31 = .ok (.aload_n 0, 1) := by decide +kernel
theorem dX6_change_32 : decode cX6_change 32 = .ok (.getfield 10, 3) := by decide +kernel
theorem dX6_change_35 : decode cX6_change 35 = .ok (.getfield 98, 3) := by decide +kernel
theorem dX6_change_38 : decode cX6_change 38 = .ok (.if_icmp .ge 62, 3) := by decide +kernel
theorem dX6_change_41 : decode cX6_change 41 = .ok (.iload 4, 2) := by decide +kernel
theorem dX6_change_43 : decode cX6_change 43 = .ok (.iconst 1, 1) := by decide +kernel
theorem dX6_change_44 : decode cX6_change 44 = .ok (.iadd, 1) := by decide +kernel
theorem dX6_change_45 : decode cX6_change 45 = .ok (.istore 5, 2) := by decide +kernel
theorem dX6_change_47 : decode cX6_change 47 = .ok (.iload 5, 2) := by decide +kernel
theorem dX6_change_49 : decode cX6_change 49 = .ok (.aload_n 0, 1) := by decide +kernel
theorem dX6_change_50 : decode cX6_change 50 = .ok (.getfield 10, 3) := by decide +kernel
theorem dX6_change_53 : decode cX6_change 53 = .ok (.getfield 98, 3) := by decide +kernel
theorem dX6_change_56 : decode cX6_change 56 = .ok (.if_icmp .ge 38, 3) := by decide +kernel
theorem dX6_change_59 : decode cX6_change 59 = .ok (.aload_n 0, 1) := by decide +kernel
theorem dX6_change_60 : decode cX6_change 60 = .ok (.iload 4, 2) := by decide +kernel
theorem dX6_change_62 : decode cX6_change 62 = .ok (.iload 5, 2) := by decide +kernel
theorem dX6_change_64 : decode cX6_change 64 = .ok (.iload_n 3, 1) := by decide +kernel
theorem dX6_change_65 : decode cX6_change 65 = .ok (.invokevirtual 188, 3) := by decide +kernel
theorem dX6_change_68 : decode cX6_change 68 = .ok (.istore 6, 2) := by decide +kernel
theorem dX6_change_70 : decode cX6_change 70 = .ok (.iload 6, 2) := by decide +kernel
theorem dX6_change_72 : decode cX6_change 72 = .ok (.iload_n 3, 1) := by decide +kernel
theorem dX6_change_73 : decode cX6_change 73 = .ok (.if_icmp .ge 15, 3) := by decide +kernel
theorem dX6_change_76 : decode cX6_change 76 = .ok (.iload 6, 2) := by decide +kernel
theorem dX6_change_78 : decode cX6_change 78 = .ok (.istore_n 3, 1) := by decide +kernel
theorem dX6_change_79 : decode cX6_change 79 = .ok (.bipush 10, 2) := by decide +kernel
theorem dX6_change_81 : decode cX6_change 81 = .ok (.iload 4, 2) := by decide +kernel
theorem dX6_change_83 : decode cX6_change 83 = .ok (.imul, 1) := by decide +kernel
theorem dX6_change_84 : decode cX6_change 84 = .ok (.iload 5, 2) := by decide +kernel
theorem dX6_change_86 : decode cX6_change 86 = .ok (.iadd, 1) := by decide +kernel
theorem dX6_change_87 : decode cX6_change 87 = .ok (.istore_n 2, 1) := by decide +kernel
theorem dX6_change_88 : decode cX6_change 88 = .ok (.iinc 5 1, 3) := by decide +kernel
theorem dX6_change_91 : decode cX6_change 91 = .ok (.goto (-44), 3) := by decide +kernel
theorem dX6_change_94 : decode cX6_change 94 = .ok (.iinc 4 1, 3) := by decide +kernel
theorem dX6_change_97 : decode cX6_change 97 = .ok (.goto (-68), 3) := by decide +kernel
theorem dX6_change_100 : decode cX6_change 100 = .ok (.iload_n 1, 1) := by decide +kernel
theorem dX6_change_101 : decode cX6_change 101 = .ok (.ifCond .ne 7, 3) := by decide +kernel
theorem dX6_change_104 : decode cX6_change 104 = .ok (.iload_n 2, 1) := by decide +kernel
theorem dX6_change_105 : decode cX6_change 105 = .ok (.goto 4, 3) := by decide +kernel
theorem dX6_change_108 : decode cX6_change 108 = .ok (.iload_n 3, 1) := by decide +kernel
theorem dX6_change_109 : decode cX6_change 109 = .ok (.ireturn, 1) := by decide +kernel
theorem dX6_comeIn_0 : decode cX6_comeIn 0 = .ok (.iload_n 1, 1) := by decide +kernel
theorem dX6_comeIn_1 : decode cX6_comeIn 1 = .ok (.ifCond .lt 26, 3) := by decide +kernel
theorem dX6_comeIn_4 : decode cX6_comeIn 4 = .ok (.iload_n 1, 1) := by decide +kernel
theorem dX6_comeIn_5 : decode cX6_comeIn 5 = .ok (.bipush 6, 2) := by decide +kernel
theorem dX6_comeIn_7 : decode cX6_comeIn 7 = .ok (.if_icmp .ge 20, 3) := by decide +kernel
theorem dX6_comeIn_10 : decode cX6_comeIn 10 = .ok (.iload_n 2, 1) := by decide +kernel
theorem dX6_comeIn_11 : decode cX6_comeIn 11 = .ok (.ifCond .lt 16, 3) := by decide +kernel
theorem dX6_comeIn_14 : decode cX6_comeIn 14 = .ok (.iload_n 2, 1) := by decide +kernel
theorem dX6_comeIn_15 : decode cX6_comeIn 15 = .ok (.bipush 99, 2) := by decide +kernel
theorem dX6_comeIn_17 : decode cX6_comeIn 17 = .ok (.if_icmp .gt 10, 3) := by decide +kernel
theorem dX6_comeIn_20 : decode cX6_comeIn 20 = .ok (.iload_n 3, 1) := by decide +kernel
theorem dX6_comeIn_21 : decode cX6_comeIn 21 = .ok (.invokestatic 95, 3) := by decide +kernel
theorem dX6_comeIn_24 : decode cX6_comeIn 24 = .ok (.ifCond .ne 6, 3) := by decide +kernel
theorem dX6_comeIn_27 : decode cX6_comeIn 27 = .ok (.bipush (-2), 2) := by decide +kernel
theorem dX6_comeIn_29 : decode cX6_comeIn 29 = .ok (.ireturn, 1) := by decide +kernel
theorem dX6_comeIn_30 : decode cX6_comeIn 30 = .ok (.aload_n 0, 1) := by decide +kernel
theorem dX6_comeIn_31 : decode cX6_comeIn 31 = .ok (.getfield 10, 3) := by decide +kernel
theorem dX6_comeIn_34 : decode cX6_comeIn 34 = .ok (.getfield 98, 3) := by decide +kernel
theorem dX6_comeIn_37 : decode cX6_comeIn 37 = .ok (.istore 4, 2) := by decide +kernel
theorem dX6_comeIn_39 : decode cX6_comeIn 39 = .ok (.iload 4, 2) := by decide +kernel
theorem dX6_comeIn_41 : decode cX6_comeIn 41 = .ok (.ifCond .lt 9, 3) := by decide +kernel
theorem dX6_comeIn_44 : decode cX6_comeIn 44 = .ok (.iload 4, 2) := by decide +kernel
theorem dX6_comeIn_46 : decode cX6_comeIn 46 = .ok (.iconst 5, 1) := by decide +kernel
theorem dX6_comeIn_47 : decode cX6_comeIn 47 = .ok (.if_icmp .lt 6, 3) := by decide +kernel
theorem dX6_comeIn_50 : decode cX6_comeIn 50 = .ok (.bipush (-4), 2) := by decide +kernel
theorem dX6_comeIn_52 : decode cX6_comeIn 52 = .ok (.ireturn, 1) := by decide +kernel
theorem dX6_comeIn_53 : decode cX6_comeIn 53 = .ok (.aload_n 0, 1) := by decide +kernel
theorem dX6_comeIn_54 : decode cX6_comeIn 54 = .ok (.getfield 10, 3) := by decide +kernel
theorem dX6_comeIn_57 : decode cX6_comeIn 57 = .ok (.getfield 101, 3) := by decide +kernel
theorem dX6_comeIn_60 : decode cX6_comeIn 60 = .ok (.iload 4, 2) := by decide +kernel
theorem dX6_comeIn_62 : decode cX6_comeIn 62 = .ok (.iload_n 1, 1) := by decide +kernel
theorem dX6_comeIn_63 : decode cX6_comeIn 63 = .ok (.iastore, 1) := by decide +kernel
theorem dX6_comeIn_64 : decode cX6_comeIn 64 = .ok (.aload_n 0, 1) := by decide +kernel
theorem dX6_comeIn_65 : decode cX6_comeIn 65 = .ok (.getfield 10, 3) := by decide +kernel
theorem dX6_comeIn_68 : decode cX6_comeIn 68 = .ok (.getfield 104, 3) := by decide +kernel
theorem dX6_comeIn_71 : decode cX6_comeIn 71 = .ok (.iload 4, 2) := by decide +kernel
theorem dX6_comeIn_73 : decode cX6_comeIn 73 = .ok (.iload_n 2, 1) := by decide +kernel
theorem dX6_comeIn_74 : decode cX6_comeIn 74 = .ok (.bipush 10, 2) := by decide +kernel
theorem dX6_comeIn_76 : decode cX6_comeIn 76 = .ok (.idiv, 1) := by decide +kernel
theorem dX6_comeIn_77 : decode cX6_comeIn 77 = .ok (.iastore, 1) := by decide +kernel
theorem dX6_comeIn_78 : decode cX6_comeIn 78 = .ok (.aload_n 0, 1) := by decide +kernel
theorem dX6_comeIn_79 : decode cX6_comeIn 79 = .ok (.getfield 10, 3) := by decide +kernel
theorem dX6_comeIn_82 : decode cX6_comeIn 82 = .ok (.getfield 87, 3) := by decide +kernel
theorem dX6_comeIn_85 : decode cX6_comeIn 85 = .ok (.iload 4, 2) := by decide +kernel
theorem dX6_comeIn_87 : decode cX6_comeIn 87 = .ok (.iload_n 2, 1) := by decide +kernel
theorem dX6_comeIn_88 : decode cX6_comeIn 88 = .ok (.bipush 10, 2) := by decide +kernel
theorem dX6_comeIn_90 : decode cX6_comeIn 90 = .ok (.irem, 1) := by decide +kernel
theorem dX6_comeIn_91 : decode cX6_comeIn 91 = .ok (.iastore, 1) := by decide +kernel
theorem dX6_comeIn_92 : decode cX6_comeIn 92 = .ok (.aload_n 0, 1) := by decide +kernel
theorem dX6_comeIn_93 : decode cX6_comeIn 93 = .ok (.getfield 10, 3) := by decide +kernel
theorem dX6_comeIn_96 : decode cX6_comeIn 96 = .ok (.getfield 107, 3) := by decide +kernel
theorem dX6_comeIn_99 : decode cX6_comeIn 99 = .ok (.iload 4, 2) := by decide +kernel
theorem dX6_comeIn_101 : decode cX6_comeIn 101 = .ok (.iload_n 3, 1) := by decide +kernel
theorem dX6_comeIn_102 : decode cX6_comeIn 102 = .ok (.bipush 100, 2) := by decide +kernel
theorem dX6_comeIn_104 : decode cX6_comeIn 104 = .ok (.idiv, 1) := by decide +kernel
theorem dX6_comeIn_105 : decode cX6_comeIn 105 = .ok (.iastore, 1) := by decide +kernel
theorem dX6_comeIn_106 : decode cX6_comeIn 106 = .ok (.aload_n 0, 1) := by decide +kernel
theorem dX6_comeIn_107 : decode cX6_comeIn 107 = .ok (.getfield 10, 3) := by decide +kernel
theorem dX6_comeIn_110 : decode cX6_comeIn 110 = .ok (.getfield 110, 3) := by decide +kernel
theorem dX6_comeIn_113 : decode cX6_comeIn 113 = .ok (.iload 4, 2) := by decide +kernel
theorem dX6_comeIn_115 : decode cX6_comeIn 115 = .ok (.iload_n 3, 1) := by decide +kernel
theorem dX6_comeIn_116 : decode cX6_comeIn 116 = .ok (.bipush 10, 2) := by decide +kernel
theorem dX6_comeIn_118 : decode cX6_comeIn 118 = .ok (.idiv, 1) := by decide +kernel
theorem dX6_comeIn_119 : decode cX6_comeIn 119 = .ok (.bipush 10, 2) := by decide +kernel
theorem dX6_comeIn_121 : decode cX6_comeIn 121 = .ok (.irem, 1) := by decide +kernel
theorem dX6_comeIn_122 : decode cX6_comeIn 122 = .ok (.iastore, 1) := by decide +kernel
theorem dX6_comeIn_123 : decode cX6_comeIn 123 = .ok (.aload_n 0, 1) := by decide +kernel
theorem dX6_comeIn_124 : decode cX6_comeIn 124 = .ok (.getfield 10, 3) := by decide +kernel
theorem dX6_comeIn_127 : decode cX6_comeIn 127 = .ok (.getfield 113, 3) := by decide +kernel
theorem dX6_comeIn_130 : decode cX6_comeIn 130 = .ok (.iload 4, 2) := by decide +kernel
theorem dX6_comeIn_132 : decode cX6_comeIn 132 = .ok (.iload_n 3, 1) := by decide +kernel
theorem dX6_comeIn_133 : decode cX6_comeIn 133 = .ok (.bipush 10, 2) := by decide +kernel
theorem dX6_comeIn_135 : decode cX6_comeIn 135 = .ok (.irem, 1) := by decide +kernel
theorem dX6_comeIn_136 : decode cX6_comeIn 136 = .ok (.iastore, 1) := by decide +kernel
theorem dX6_comeIn_137 : decode cX6_comeIn 137 = .ok (.aload_n 0, 1) := by decide +kernel
theorem dX6_comeIn_138 : decode cX6_comeIn 138 = .ok (.getfield 10, 3) := by decide +kernel
theorem dX6_comeIn_141 : decode cX6_comeIn 141 = .ok (.getfield 116, 3) := by decide +kernel
theorem dX6_comeIn_144 : decode cX6_comeIn 144 = .ok (.iload 4, 2) := by decide +kernel
theorem dX6_comeIn_146 : decode cX6_comeIn 146 = .ok (.bipush 100, 2) := by decide +kernel
theorem dX6_comeIn_148 : decode cX6_comeIn 148 = .ok (.iastore, 1) := by decide +kernel
theorem dX6_comeIn_149 : decode cX6_comeIn 149 = .ok (.aload_n 0, 1) := by decide +kernel
theorem dX6_comeIn_150 : decode cX6_comeIn 150 = .ok (.getfield 10, 3) := by decide +kernel
theorem dX6_comeIn_153 : decode cX6_comeIn 153 = .ok (.iload 4, 2) := by decide +kernel
theorem dX6_comeIn_155 : decode cX6_comeIn 155 = .ok (.iload 4, 2) := by decide +kernel
theorem dX6_comeIn_157 : decode cX6_comeIn 157 = .ok (.invokevirtual 119, 3) := by decide +kernel
theorem dX6_comeIn_160 : decode cX6_comeIn 160 = .ok (.ifCond .ne 6, 3) := by decide +kernel
theorem dX6_comeIn_163 : decode cX6_comeIn 163 = .ok (.bipush (-3), 2) := by decide +kernel
theorem dX6_comeIn_165 : decode cX6_comeIn 165 = .ok (.ireturn, 1) := by decide +kernel
theorem dX6_comeIn_166 : decode cX6_comeIn 166 = .ok (.aload_n 0, 1) := by decide +kernel
theorem dX6_comeIn_167 : decode cX6_comeIn 167 = .ok (.getfield 10, 3) := by decide +kernel
theorem dX6_comeIn_170 : decode cX6_comeIn 170 = .ok (.iload 4, 2) := by decide +kernel
theorem dX6_comeIn_172 : decode cX6_comeIn 172 = .ok (.iconst 1, 1) := by decide +kernel
theorem dX6_comeIn_173 : decode cX6_comeIn 173 = .ok (.iadd, 1) := by decide +kernel
theorem dX6_comeIn_174 : decode cX6_comeIn 174 = .ok (.putfield 98, 3) := by decide +kernel
theorem dX6_comeIn_177 : decode cX6_comeIn 177 = .ok (.iload 4, 2) := by decide +kernel
theorem dX6_comeIn_179 : decode cX6_comeIn 179 = .ok (.ireturn, 1) := by decide +kernel
theorem dX6_copy_0 : decode cX6_copy 0 = .ok (.iload_n 1, 1) := by decide +kernel
theorem dX6_copy_1 : decode cX6_copy 1 = .ok (.invokestatic 214, 3) := by decide +kernel
theorem dX6_copy_4 : decode cX6_copy 4 = .ok (.ifCond .eq 10, 3) := by decide +kernel
theorem dX6_copy_7 : decode cX6_copy 7 = .ok (.iload_n 3, 1) := by decide +kernel
theorem dX6_copy_8 : decode cX6_copy 8 = .ok (.invokestatic 214, 3) := by decide +kernel
theorem dX6_copy_11 : decode cX6_copy 11 = .ok (.ifCond .ne 6, 3) := by decide +kernel
theorem dX6_copy_14 : decode cX6_copy 14 = .ok (.bipush (-2), 2) := by decide +kernel
theorem dX6_copy_16 : decode cX6_copy 16 = .ok (.ireturn, 1) := by decide +kernel
theorem dX6_copy_17 : decode cX6_copy 17 = .ok (.aload_n 0, 1) := by decide +kernel
theorem dX6_copy_18 : decode cX6_copy 18 = .ok (.getfield 34, 3) := by decide +kernel
theorem dX6_copy_21 : decode cX6_copy 21 = .ok (.iload_n 1, 1) := by decide +kernel
theorem dX6_copy_22 : decode cX6_copy 22 = .ok (.aaload, 1) := by decide +kernel
theorem dX6_copy_23 : decode cX6_copy 23 = .ok (.astore 6, 2) := by decide +kernel
theorem dX6_copy_25 : decode cX6_copy 25 = .ok (.aload_n 0, 1) := by decide +kernel
theorem dX6_copy_26 : decode cX6_copy 26 = .ok (.getfield 34, 3) := by decide +kernel
theorem dX6_copy_29 : decode cX6_copy 29 = .ok (.iload_n 3, 1) := by decide +kernel
theorem dX6_copy_30 : decode cX6_copy 30 = .ok (.aaload, 1) := by decide +kernel
theorem dX6_copy_31 : decode cX6_copy 31 = .ok (.astore 7, 2) := by decide +kernel
theorem dX6_copy_33 : decode cX6_copy 33 = .ok (.aload 6, 2) := by decide +kernel
theorem dX6_copy_35 : decode cX6_copy 35 = .ok (.invokevirtual 245, 3) := by decide +kernel
theorem dX6_copy_38 : decode cX6_copy 38 = .ok (.ifCond .ne 11, 3) := by decide +kernel
theorem dX6_copy_41 : decode cX6_copy 41 = .ok (.aload 7, 2) := by decide +kernel
theorem dX6_copy_43 : decode cX6_copy 43 = .ok (.invokevirtual 245, 3) := by decide +kernel
theorem dX6_copy_46 : decode cX6_copy 46 = .ok (.ifCond .eq 6, 3) := by decide +kernel
theorem dX6_copy_49 : decode cX6_copy 49 = .ok (.bipush (-11), 2) := by decide +kernel
theorem dX6_copy_51 : decode cX6_copy 51 = .ok (.ireturn, 1) := by decide +kernel
theorem dX6_copy_52 : decode cX6_copy 52 = .ok (.aload 6, 2) := by decide +kernel
theorem dX6_copy_54 : decode cX6_copy 54 = .ok (.getfield 253, 3) := by decide +kernel
theorem dX6_copy_57 : decode cX6_copy 57 = .ok (.aload 7, 2) := by decide +kernel
theorem dX6_copy_59 : decode cX6_copy 59 = .ok (.getfield 253, 3) := by decide +kernel
theorem dX6_copy_62 : decode cX6_copy 62 = .ok (.if_icmp .eq 6, 3) := by decide +kernel
theorem dX6_copy_65 : decode cX6_copy 65 = .ok (.bipush (-13), 2) := by decide +kernel
theorem dX6_copy_67 : decode cX6_copy 67 = .ok (.ireturn, 1) := by decide +kernel
theorem dX6_copy_68 : decode cX6_copy 68 = .ok (.aload 6, 2) := by decide +kernel
theorem dX6_copy_70 : decode cX6_copy 70 = .ok (.iload_n 2, 1) := by decide +kernel
theorem dX6_copy_71 : decode cX6_copy 71 = .ok (.iload 5, 2) := by decide +kernel
theorem dX6_copy_73 : decode cX6_copy 73 = .ok (.invokevirtual 256, 3) := by decide +kernel
theorem dX6_copy_76 : decode cX6_copy 76 = .ok (.ifCond .eq 15, 3) := by decide +kernel
theorem dX6_copy_79 : decode cX6_copy 79 = .ok (.aload 7, 2) := by decide +kernel
theorem dX6_copy_81 : decode cX6_copy 81 = .ok (.iload 4, 2) := by decide +kernel
theorem dX6_copy_83 : decode cX6_copy 83 = .ok (.iload 5, 2) := by decide +kernel
theorem dX6_copy_85 : decode cX6_copy 85 = .ok (.invokevirtual 256, 3) := by decide +kernel
theorem dX6_copy_88 : decode cX6_copy 88 = .ok (.ifCond .ne 6, 3) := by decide +kernel
theorem dX6_copy_91 : decode cX6_copy 91 = .ok (.bipush (-12), 2) := by decide +kernel
theorem dX6_copy_93 : decode cX6_copy 93 = .ok (.ireturn, 1) := by decide +kernel
theorem dX6_copy_94 : decode cX6_copy 94 = .ok (.aload 6, 2) := by decide +kernel
theorem dX6_copy_96 : decode cX6_copy 96 = .ok (.getfield 232, 3) := by decide +kernel
theorem dX6_copy_99 : decode cX6_copy 99 = .ok (.iload_n 2, 1) := by decide +kernel
theorem dX6_copy_100 : decode cX6_copy 100 = .ok (.aload 7, 2) := by decide +kernel
theorem dX6_copy_102 : decode cX6_copy 102 = .ok (.getfield 232, 3) := by decide +kernel
theorem dX6_copy_105 : decode cX6_copy 105 = .ok (.iload 4, 2) := by decide +kernel
theorem dX6_copy_107 : decode cX6_copy 107 = .ok (.iload 5, 2) := by decide +kernel
theorem dX6_copy_109 : decode cX6_copy 109 = .ok (.invokestatic 259, 3) := by decide +kernel
theorem dX6_copy_112 : decode cX6_copy 112 = .ok (.iload 5, 2) := by decide +kernel
theorem dX6_copy_114 : decode cX6_copy 114 = .ok (.ireturn, 1) := by decide +kernel
theorem dX6_costOfChanging_0 : decode cX6_costOfChanging 0 = .ok (.aload_n 0, 1) := by decide +kernel
theorem dX6_costOfChanging_1 : decode cX6_costOfChanging 1 = .ok (.getfield 41, 3) := by decide +kernel
theorem dX6_costOfChanging_4 : decode cX6_costOfChanging 4 = .ok (.getfield 181, 3) := by decide +kernel
theorem dX6_costOfChanging_7 : decode cX6_costOfChanging 7 = .ok (.getfield 113, 3) := by decide +kernel
theorem dX6_costOfChanging_10 : decode cX6_costOfChanging 10 = .ok (.astore 4, 2) := by decide +kernel
theorem dX6_costOfChanging_12 : decode cX6_costOfChanging 12 = .ok (.aload 4, 2) := by decide +kernel
theorem dX6_costOfChanging_14 : decode cX6_costOfChanging 14 = .ok (.iload_n 1, 1) := by decide +kernel
theorem dX6_costOfChanging_15 : decode cX6_costOfChanging 15 = .ok (.aload_n 0, 1) := by decide +kernel
theorem dX6_costOfChanging_16 : decode cX6_costOfChanging 16 = .ok (.getfield 10, 3) := by decide +kernel
theorem dX6_costOfChanging_19 : decode cX6_costOfChanging 19 = .ok (.getfield 113, 3) := by decide +kernel
theorem dX6_costOfChanging_22 : decode cX6_costOfChanging 22 = .ok (.iload_n 2, 1) := by decide +kernel
theorem dX6_costOfChanging_23 : decode cX6_costOfChanging 23 = .ok (.iaload, 1) := by decide +kernel
theorem dX6_costOfChanging_24 : decode cX6_costOfChanging 24 = .ok (.iastore, 1) := by decide +kernel
theorem dX6_costOfChanging_25 : decode cX6_costOfChanging 25 = .ok (.aload 4, 2) := by decide +kernel
theorem dX6_costOfChanging_27 : decode cX6_costOfChanging 27 = .ok (.iload_n 2, 1) := by decide +kernel
theorem dX6_costOfChanging_28 : decode cX6_costOfChanging 28 = .ok (.aload_n 0, 1) := by decide +kernel
theorem dX6_costOfChanging_29 : decode cX6_costOfChanging 29 = .ok (.getfield 10, 3) := by decide +kernel
theorem dX6_costOfChanging_32 : decode cX6_costOfChanging 32 = .ok (.getfield 113, 3) := by decide +kernel
theorem dX6_costOfChanging_35 : decode cX6_costOfChanging 35 = .ok (.iload_n 1, 1) := by decide +kernel
theorem dX6_costOfChanging_36 : decode cX6_costOfChanging 36 = .ok (.iaload, 1) := by decide +kernel
theorem dX6_costOfChanging_37 : decode cX6_costOfChanging 37 = .ok (.iastore, 1) := by decide +kernel
theorem dX6_costOfChanging_38 : decode cX6_costOfChanging 38 = .ok (.iload_n 3, 1) := by decide +kernel
theorem dX6_costOfChanging_39 : decode cX6_costOfChanging 39 = .ok (.istore 5, 2) := by decide +kernel
theorem dX6_costOfChanging_41 : decode cX6_costOfChanging 41 = .ok (.aload_n 0, 1) := by decide +kernel
theorem dX6_costOfChanging_42 : decode cX6_costOfChanging 42 = .ok (.getfield 41, 3) := by decide +kernel
theorem dX6_costOfChanging_45 : decode cX6_costOfChanging 45 = .ok (.getfield 181, 3) := by decide +kernel
theorem dX6_costOfChanging_48 : decode cX6_costOfChanging 48 = .ok (.invokevirtual 211, 3) := by decide +kernel
theorem dX6_costOfChanging_51 : decode cX6_costOfChanging 51 = .ok (.ifCond .eq 19, 3) := by decide +kernel
theorem dX6_costOfChanging_54 : decode cX6_costOfChanging 54 = .ok (.aload_n 0, 1) := by decide +kernel
theorem dX6_costOfChanging_55 : decode cX6_costOfChanging 55 = .ok (.getfield 41, 3) := by decide +kernel
theorem dX6_costOfChanging_58 : decode cX6_costOfChanging 58 = .ok (.invokevirtual 182, 3) := by decide +kernel
theorem dX6_costOfChanging_61 : decode cX6_costOfChanging 61 = .ok (.aload_n 0, 1) := by decide +kernel
theorem dX6_costOfChanging_62 : decode cX6_costOfChanging 62 = .ok (.getfield 41, 3) := by decide +kernel
theorem dX6_costOfChanging_65 : decode cX6_costOfChanging 65 = .ok (.invokevirtual 148, 3) := by decide +kernel
theorem dX6_costOfChanging_68 : decode cX6_costOfChanging 68 = .ok (.istore 5, 2) := by decide +kernel
theorem dX6_costOfChanging_70 : decode cX6_costOfChanging 70 = .ok (.aload 4, 2) := by decide +kernel
theorem dX6_costOfChanging_72 : decode cX6_costOfChanging 72 = .ok (.iload_n 1, 1) := by decide +kernel
theorem dX6_costOfChanging_73 : decode cX6_costOfChanging 73 = .ok (.aload_n 0, 1) := by decide +kernel
theorem dX6_costOfChanging_74 : decode cX6_costOfChanging 74 = .ok (.getfield 10, 3) := by decide +kernel
theorem dX6_costOfChanging_77 : decode cX6_costOfChanging 77 = .ok (.getfield 113, 3) := by decide +kernel
theorem dX6_costOfChanging_80 : decode cX6_costOfChanging 80 = .ok (.iload_n 1, 1) := by decide +kernel
theorem dX6_costOfChanging_81 : decode cX6_costOfChanging 81 = .ok (.iaload, 1) := by decide +kernel
theorem dX6_costOfChanging_82 : decode cX6_costOfChanging 82 = .ok (.iastore, 1) := by decide +kernel
theorem dX6_costOfChanging_83 : decode cX6_costOfChanging 83 = .ok (.aload 4, 2) := by decide +kernel
theorem dX6_costOfChanging_85 : decode cX6_costOfChanging 85 = .ok (.iload_n 2, 1) := by decide +kernel
theorem dX6_costOfChanging_86 : decode cX6_costOfChanging 86 = .ok (.aload_n 0, 1) := by decide +kernel
theorem dX6_costOfChanging_87 : decode cX6_costOfChanging 87 = .ok (.getfield 10, 3) := by decide +kernel
theorem dX6_costOfChanging_90 : decode cX6_costOfChanging 90 = .ok (.getfield 113, 3) := by decide +kernel
theorem dX6_costOfChanging_93 : decode cX6_costOfChanging 93 = .ok (.iload_n 2, 1) := by decide +kernel
theorem dX6_costOfChanging_94 : decode cX6_costOfChanging 94 = .ok (.iaload, 1) := by decide +kernel
theorem dX6_costOfChanging_95 : decode cX6_costOfChanging 95 = .ok (.iastore, 1) := by decide +kernel
theorem dX6_costOfChanging_96 : decode cX6_costOfChanging 96 = .ok (.iload 5, 2) := by decide +kernel
theorem dX6_costOfChanging_98 : decode cX6_costOfChanging 98 = .ok (.ireturn, 1) := by decide +kernel
theorem dX6_costOfDrawn_0 : decode cX6_costOfDrawn 0 = .ok (.iload_n 1, 1) := by decide +kernel
theorem dX6_costOfDrawn_1 : decode cX6_costOfDrawn 1 = .ok (.istore_n 2, 1) := by decide +kernel
theorem dX6_costOfDrawn_2 : decode cX6_costOfDrawn 2 = .ok (.aload_n 0, 1) := by decide +kernel
theorem dX6_costOfDrawn_3 : decode cX6_costOfDrawn 3 = .ok (.getfield 41, 3) := by decide +kernel
theorem dX6_costOfDrawn_6 : decode cX6_costOfDrawn 6 = .ok (.getfield 181, 3) := by decide +kernel
theorem dX6_costOfDrawn_9 : decode cX6_costOfDrawn 9 = .ok (.astore_n 3, 1) := by decide +kernel
theorem dX6_costOfDrawn_10 : decode cX6_costOfDrawn 10 = .ok (.iconst 0, 1) := by decide +kernel
theorem dX6_costOfDrawn_11 : decode cX6_costOfDrawn 11 = .ok (.istore 4, 2) := by decide +kernel
theorem dX6_costOfDrawn_13 : decode cX6_costOfDrawn 13 = .ok (.iload 4, 2) := by decide +kernel
theorem dX6_costOfDrawn_15 : decode cX6_costOfDrawn 15 = .ok (.aload_n 0, 1) := by decide +kernel
theorem dX6_costOfDrawn_16 : decode cX6_costOfDrawn 16 = .ok (.getfield 10, 3) := by decide +kernel
theorem dX6_costOfDrawn_19 : decode cX6_costOfDrawn 19 = .ok (.getfield 98, 3) := by decide +kernel
theorem dX6_costOfDrawn_22 : decode cX6_costOfDrawn 22 = .ok (.if_icmp .ge 78, 3) := by decide +kernel
theorem dX6_costOfDrawn_25 : decode cX6_costOfDrawn 25 = .ok (.iload_n 2, 1) := by decide +kernel
theorem dX6_costOfDrawn_26 : decode cX6_costOfDrawn 26 = .ok (.ldc 249, 2) := by decide +kernel
theorem dX6_costOfDrawn_28 : decode cX6_costOfDrawn 28 = .ok (.imul, 1) := by decide +kernel
theorem dX6_costOfDrawn_29 : decode cX6_costOfDrawn 29 = .ok (.sipush 12345, 3) := by decide +kernel
theorem dX6_costOfDrawn_32 : decode cX6_costOfDrawn 32 = .ok (.iadd, 1) := by decide +kernel
theorem dX6_costOfDrawn_33 : decode cX6_costOfDrawn 33 = .ok (.istore_n 2, 1) := by decide +kernel
theorem dX6_costOfDrawn_34 : decode cX6_costOfDrawn 34 = .ok (.iload_n 2, 1) := by decide +kernel
theorem dX6_costOfDrawn_35 : decode cX6_costOfDrawn 35 = .ok (.bipush 9, 2) := by decide +kernel
theorem dX6_costOfDrawn_37 : decode cX6_costOfDrawn 37 = .ok (.iushr, 1) := by decide +kernel
theorem dX6_costOfDrawn_38 : decode cX6_costOfDrawn 38 = .ok (.bipush 6, 2) := by decide +kernel
theorem dX6_costOfDrawn_40 : decode cX6_costOfDrawn 40 = .ok (.irem, 1) := by decide +kernel
theorem dX6_costOfDrawn_41 : decode cX6_costOfDrawn 41 = .ok (.istore 5, 2) := by decide +kernel
theorem dX6_costOfDrawn_43 : decode cX6_costOfDrawn 43 = .ok (.aload_n 3, 1) := by decide +kernel
theorem dX6_costOfDrawn_44 : decode cX6_costOfDrawn 44 = .ok (.getfield 113, 3) := by decide +kernel
theorem dX6_costOfDrawn_47 : decode cX6_costOfDrawn 47 = .ok (.iload 4, 2) := by decide +kernel
theorem dX6_costOfDrawn_49 : decode cX6_costOfDrawn 49 = .ok (.iload 5, 2) := by decide +kernel
theorem dX6_costOfDrawn_51 : decode cX6_costOfDrawn 51 = .ok (.iastore, 1) := by decide +kernel
theorem dX6_costOfDrawn_52 : decode cX6_costOfDrawn 52 = .ok (.iconst 1, 1) := by decide +kernel
theorem dX6_costOfDrawn_53 : decode cX6_costOfDrawn 53 = .ok (.istore 6, 2) := by decide +kernel
theorem dX6_costOfDrawn_55 : decode cX6_costOfDrawn 55 = .ok (.iload 6, 2) := by decide +kernel
theorem dX6_costOfDrawn_57 : decode cX6_costOfDrawn 57 = .ok (.bipush 6, 2) := by decide +kernel
theorem dX6_costOfDrawn_59 : decode cX6_costOfDrawn 59 = .ok (.if_icmp .ge 35, 3) := by decide +kernel
theorem dX6_costOfDrawn_62 : decode cX6_costOfDrawn 62 = .ok (.aload_n 3, 1) := by decide +kernel
theorem dX6_costOfDrawn_63 : decode cX6_costOfDrawn 63 = .ok (.iload 4, 2) := by decide +kernel
theorem dX6_costOfDrawn_65 : decode cX6_costOfDrawn 65 = .ok (.iload 4, 2) := by decide +kernel
theorem dX6_costOfDrawn_67 : decode cX6_costOfDrawn 67 = .ok (.invokevirtual 119, 3) := by decide +kernel
theorem dX6_costOfDrawn_70 : decode cX6_costOfDrawn 70 = .ok (.ifCond .ne 24, 3) := by decide +kernel
theorem dX6_costOfDrawn_73 : decode cX6_costOfDrawn 73 = .ok (.aload_n 3, 1) := by decide +kernel
theorem dX6_costOfDrawn_74 : decode cX6_costOfDrawn 74 = .ok (.getfield 113, 3) := by decide +kernel
theorem dX6_costOfDrawn_77 : decode cX6_costOfDrawn 77 = .ok (.iload 4, 2) := by decide +kernel
theorem dX6_costOfDrawn_79 : decode cX6_costOfDrawn 79 = .ok (.iload 5, 2) := by decide +kernel
theorem dX6_costOfDrawn_81 : decode cX6_costOfDrawn 81 = .ok (.iload 6, 2) := by decide +kernel
theorem dX6_costOfDrawn_83 : decode cX6_costOfDrawn 83 = .ok (.iadd, 1) := by decide +kernel
theorem dX6_costOfDrawn_84 : decode cX6_costOfDrawn 84 = .ok (.bipush 6, 2) := by decide +kernel
theorem dX6_costOfDrawn_86 : decode cX6_costOfDrawn 86 = .ok (.irem, 1) := by decide +kernel
theorem dX6_costOfDrawn_87 : decode cX6_costOfDrawn 87 = .ok (.iastore, 1) := by decide +kernel
theorem dX6_costOfDrawn_88 : decode cX6_costOfDrawn 88 = .ok (.iinc 6 1, 3) := by decide +kernel
theorem dX6_costOfDrawn_91 : decode cX6_costOfDrawn 91 = .ok (.goto (-36), 3) := by decide +kernel
theorem dX6_costOfDrawn_94 : decode cX6_costOfDrawn 94 = .ok (.iinc 4 1, 3) := by decide +kernel
theorem dX6_costOfDrawn_97 : decode cX6_costOfDrawn 97 = .ok (.goto (-84), 3) := by decide +kernel
theorem dX6_costOfDrawn_100 : decode cX6_costOfDrawn 100 = .ok (.aload_n 0, 1) := by decide +kernel
theorem dX6_costOfDrawn_101 : decode cX6_costOfDrawn 101 = .ok (.getfield 41, 3) := by decide +kernel
theorem dX6_costOfDrawn_104 : decode cX6_costOfDrawn 104 = .ok (.invokevirtual 182, 3) := by decide +kernel
theorem dX6_costOfDrawn_107 : decode cX6_costOfDrawn 107 = .ok (.aload_n 0, 1) := by decide +kernel
theorem dX6_costOfDrawn_108 : decode cX6_costOfDrawn 108 = .ok (.getfield 41, 3) := by decide +kernel
theorem dX6_costOfDrawn_111 : decode cX6_costOfDrawn 111 = .ok (.invokevirtual 148, 3) := by decide +kernel
theorem dX6_costOfDrawn_114 : decode cX6_costOfDrawn 114 = .ok (.ireturn, 1) := by decide +kernel
theorem dX6_count_0 : decode cX6_count 0 = .ok (.iload_n 1, 1) := by decide +kernel
theorem dX6_count_1 : decode cX6_count 1 = .ok (.tableswitch 72 0 4 #[35, 43, 51, 56, 64], 35) := by decide +kernel
theorem dX6_count_36 : decode cX6_count 36 = .ok (.aload_n 0, 1) := by decide +kernel
theorem dX6_count_37 : decode cX6_count 37 = .ok (.getfield 10, 3) := by decide +kernel
theorem dX6_count_40 : decode cX6_count 40 = .ok (.getfield 98, 3) := by decide +kernel
theorem dX6_count_43 : decode cX6_count 43 = .ok (.ireturn, 1) := by decide +kernel
theorem dX6_count_44 : decode cX6_count 44 = .ok (.aload_n 0, 1) := by decide +kernel
theorem dX6_count_45 : decode cX6_count 45 = .ok (.getfield 10, 3) := by decide +kernel
theorem dX6_count_48 : decode cX6_count 48 = .ok (.getfield 122, 3) := by decide +kernel
theorem dX6_count_51 : decode cX6_count 51 = .ok (.ireturn, 1) := by decide +kernel
theorem dX6_count_52 : decode cX6_count 52 = .ok (.aload_n 0, 1) := by decide +kernel
theorem dX6_count_53 : decode cX6_count 53 = .ok (.getfield 55, 3) := by decide +kernel
theorem dX6_count_56 : decode cX6_count 56 = .ok (.ireturn, 1) := by decide +kernel
theorem dX6_count_57 : decode cX6_count 57 = .ok (.aload_n 0, 1) := by decide +kernel
theorem dX6_count_58 : decode cX6_count 58 = .ok (.getfield 22, 3) := by decide +kernel
theorem dX6_count_61 : decode cX6_count 61 = .ok (.getfield 125, 3) := by decide +kernel
theorem dX6_count_64 : decode cX6_count 64 = .ok (.ireturn, 1) := by decide +kernel
theorem dX6_count_65 : decode cX6_count 65 = .ok (.aload_n 0, 1) := by decide +kernel
theorem dX6_count_66 : decode cX6_count 66 = .ok (.getfield 10, 3) := by decide +kernel
theorem dX6_count_69 : decode cX6_count 69 = .ok (.getfield 142, 3) := by decide +kernel
theorem dX6_count_72 : decode cX6_count 72 = .ok (.ireturn, 1) := by decide +kernel
theorem dX6_count_73 : decode cX6_count 73 = .ok (.bipush (-2), 2) := by decide +kernel
theorem dX6_count_75 : decode cX6_count 75 = .ok (.ireturn, 1) := by decide +kernel
theorem dX6_drawn_0 : decode cX6_drawn 0 = .ok (.aload_n 0, 1) := by decide +kernel
theorem dX6_drawn_1 : decode cX6_drawn 1 = .ok (.invokevirtual 145, 3) := by decide +kernel
theorem dX6_drawn_4 : decode cX6_drawn 4 = .ok (.aload_n 0, 1) := by decide +kernel
theorem dX6_drawn_5 : decode cX6_drawn 5 = .ok (.iload_n 1, 1) := by decide +kernel
theorem dX6_drawn_6 : decode cX6_drawn 6 = .ok (.invokevirtual 235, 3) := by decide +kernel
theorem dX6_drawn_9 : decode cX6_drawn 9 = .ok (.ireturn, 1) := by decide +kernel
theorem dX6_feed_0 : decode cX6_feed 0 = .ok (.iload_n 1, 1) := by decide +kernel
theorem dX6_feed_1 : decode cX6_feed 1 = .ok (.ifCond .lt 10, 3) := by decide +kernel
theorem dX6_feed_4 : decode cX6_feed 4 = .ok (.iload_n 1, 1) := by decide +kernel
theorem dX6_feed_5 : decode cX6_feed 5 = .ok (.sipush 255, 3) := by decide +kernel
theorem dX6_feed_8 : decode cX6_feed 8 = .ok (.if_icmp .le 6, 3) := by decide +kernel
theorem dX6_feed_11 : decode cX6_feed 11 = .ok (.bipush (-2), 2) := by decide +kernel
theorem dX6_feed_13 : decode cX6_feed 13 = .ok (.ireturn, 1) := by decide +kernel
theorem dX6_feed_14 : decode cX6_feed 14 = .ok (.aload_n 0, 1) := by decide +kernel
theorem dX6_feed_15 : decode cX6_feed 15 = .ok (.getfield 22, 3) := by decide +kernel
theorem dX6_feed_18 : decode cX6_feed 18 = .ok (.getfield 125, 3) := by decide +kernel
theorem dX6_feed_21 : decode cX6_feed 21 = .ok (.sipush 160, 3) := by decide +kernel
theorem dX6_feed_24 : decode cX6_feed 24 = .ok (.if_icmp .lt 6, 3) := by decide +kernel
theorem dX6_feed_27 : decode cX6_feed 27 = .ok (.bipush (-4), 2) := by decide +kernel
theorem dX6_feed_29 : decode cX6_feed 29 = .ok (.ireturn, 1) := by decide +kernel
theorem dX6_feed_30 : decode cX6_feed 30 = .ok (.aload_n 0, 1) := by decide +kernel
theorem dX6_feed_31 : decode cX6_feed 31 = .ok (.getfield 22, 3) := by decide +kernel
theorem dX6_feed_34 : decode cX6_feed 34 = .ok (.getfield 128, 3) := by decide +kernel
theorem dX6_feed_37 : decode cX6_feed 37 = .ok (.aload_n 0, 1) := by decide +kernel
theorem dX6_feed_38 : decode cX6_feed 38 = .ok (.getfield 22, 3) := by decide +kernel
theorem dX6_feed_41 : decode cX6_feed 41 = .ok (.getfield 125, 3) := by decide +kernel
theorem dX6_feed_44 : decode cX6_feed 44 = .ok (.iload_n 1, 1) := by decide +kernel
theorem dX6_feed_45 : decode cX6_feed 45 = .ok (.iastore, 1) := by decide +kernel
theorem dX6_feed_46 : decode cX6_feed 46 = .ok (.aload_n 0, 1) := by decide +kernel
theorem dX6_feed_47 : decode cX6_feed 47 = .ok (.getfield 22, 3) := by decide +kernel
theorem dX6_feed_50 : decode cX6_feed 50 = .ok (.dup, 1) := by decide +kernel
theorem dX6_feed_51 : decode cX6_feed 51 = .ok (.getfield 125, 3) := by decide +kernel
theorem dX6_feed_54 : decode cX6_feed 54 = .ok (.iconst 1, 1) := by decide +kernel
theorem dX6_feed_55 : decode cX6_feed 55 = .ok (.iadd, 1) := by decide +kernel
theorem dX6_feed_56 : decode cX6_feed 56 = .ok (.putfield 125, 3) := by decide +kernel
theorem dX6_feed_59 : decode cX6_feed 59 = .ok (.aload_n 0, 1) := by decide +kernel
theorem dX6_feed_60 : decode cX6_feed 60 = .ok (.getfield 22, 3) := by decide +kernel
theorem dX6_feed_63 : decode cX6_feed 63 = .ok (.getfield 125, 3) := by decide +kernel
theorem dX6_feed_66 : decode cX6_feed 66 = .ok (.ireturn, 1) := by decide +kernel
theorem dX6_film_0 : decode cX6_film 0 = .ok (.iload_n 1, 1) := by decide +kernel
theorem dX6_film_1 : decode cX6_film 1 = .ok (.invokestatic 214, 3) := by decide +kernel
theorem dX6_film_4 : decode cX6_film 4 = .ok (.ifCond .eq 13, 3) := by decide +kernel
theorem dX6_film_7 : decode cX6_film 7 = .ok (.iload_n 2, 1) := by decide +kernel
theorem dX6_film_8 : decode cX6_film 8 = .ok (.ifCond .lt 9, 3) := by decide +kernel
theorem dX6_film_11 : decode cX6_film 11 = .ok (.iload_n 2, 1) := by decide +kernel
theorem dX6_film_12 : decode cX6_film 12 = .ok (.bipush 10, 2) := by decide +kernel
theorem dX6_film_14 : decode cX6_film 14 = .ok (.if_icmp .le 6, 3) := by decide +kernel
theorem dX6_film_17 : decode cX6_film 17 = .ok (.bipush (-2), 2) := by decide +kernel
theorem dX6_film_19 : decode cX6_film 19 = .ok (.ireturn, 1) := by decide +kernel
theorem dX6_film_20 : decode cX6_film 20 = .ok (.aload_n 0, 1) := by decide +kernel
theorem dX6_film_21 : decode cX6_film 21 = .ok (.invokevirtual 145, 3) := by decide +kernel
theorem dX6_film_24 : decode cX6_film 24 = .ok (.aload_n 0, 1) := by decide +kernel
theorem dX6_film_25 : decode cX6_film 25 = .ok (.getfield 34, 3) := by decide +kernel
theorem dX6_film_28 : decode cX6_film 28 = .ok (.iload_n 1, 1) := by decide +kernel
theorem dX6_film_29 : decode cX6_film 29 = .ok (.aaload, 1) := by decide +kernel
theorem dX6_film_30 : decode cX6_film 30 = .ok (.iconst 0, 1) := by decide +kernel
theorem dX6_film_31 : decode cX6_film 31 = .ok (.iload_n 2, 1) := by decide +kernel
theorem dX6_film_32 : decode cX6_film 32 = .ok (.invokevirtual 228, 3) := by decide +kernel
theorem dX6_film_35 : decode cX6_film 35 = .ok (.iconst 0, 1) := by decide +kernel
theorem dX6_film_36 : decode cX6_film 36 = .ok (.istore_n 3, 1) := by decide +kernel
theorem dX6_film_37 : decode cX6_film 37 = .ok (.iload_n 3, 1) := by decide +kernel
theorem dX6_film_38 : decode cX6_film 38 = .ok (.iload_n 2, 1) := by decide +kernel
theorem dX6_film_39 : decode cX6_film 39 = .ok (.if_icmp .ge 28, 3) := by decide +kernel
theorem dX6_film_42 : decode cX6_film 42 = .ok (.aload_n 0, 1) := by decide +kernel
theorem dX6_film_43 : decode cX6_film 43 = .ok (.getfield 34, 3) := by decide +kernel
theorem dX6_film_46 : decode cX6_film 46 = .ok (.iload_n 1, 1) := by decide +kernel
theorem dX6_film_47 : decode cX6_film 47 = .ok (.aaload, 1) := by decide +kernel
theorem dX6_film_48 : decode cX6_film 48 = .ok (.getfield 232, 3) := by decide +kernel
theorem dX6_film_51 : decode cX6_film 51 = .ok (.iload_n 3, 1) := by decide +kernel
theorem dX6_film_52 : decode cX6_film 52 = .ok (.aload_n 0, 1) := by decide +kernel
theorem dX6_film_53 : decode cX6_film 53 = .ok (.getfield 41, 3) := by decide +kernel
theorem dX6_film_56 : decode cX6_film 56 = .ok (.iload_n 3, 1) := by decide +kernel
theorem dX6_film_57 : decode cX6_film 57 = .ok (.invokevirtual 158, 3) := by decide +kernel
theorem dX6_film_60 : decode cX6_film 60 = .ok (.iastore, 1) := by decide +kernel
theorem dX6_film_61 : decode cX6_film 61 = .ok (.iinc 3 1, 3) := by decide +kernel
theorem dX6_film_64 : decode cX6_film 64 = .ok (.goto (-27), 3) := by decide +kernel
theorem dX6_film_67 : decode cX6_film 67 = .ok (.iload_n 2, 1) := by decide +kernel
theorem dX6_film_68 : decode cX6_film 68 = .ok (.ireturn, 1) := by decide +kernel
theorem dX6_firstUnlike_0 : decode cX6_firstUnlike 0 = .ok (.iconst 0, 1) := by decide +kernel
theorem dX6_firstUnlike_1 : decode cX6_firstUnlike 1 = .ok (.istore_n 2, 1) := by decide +kernel
theorem dX6_firstUnlike_2 : decode cX6_firstUnlike 2 = .ok (.iload_n 2, 1) := by decide +kernel
theorem dX6_firstUnlike_3 : decode cX6_firstUnlike 3 = .ok (.aload_n 1, 1) := by decide +kernel
theorem dX6_firstUnlike_4 : decode cX6_firstUnlike 4 = .ok (.getfield 248, 3) := by decide +kernel
theorem dX6_firstUnlike_7 : decode cX6_firstUnlike 7 = .ok (.if_icmp .ge 34, 3) := by decide +kernel
theorem dX6_firstUnlike_10 : decode cX6_firstUnlike 10 = .ok (.iload_n 2, 1) := by decide +kernel
theorem dX6_firstUnlike_11 : decode cX6_firstUnlike 11 = .ok (.bipush 10, 2) := by decide +kernel
theorem dX6_firstUnlike_13 : decode cX6_firstUnlike 13 = .ok (.if_icmp .ge 28, 3) := by decide +kernel
theorem dX6_firstUnlike_16 : decode cX6_firstUnlike 16 = .ok (.aload_n 1, 1) := by decide +kernel
theorem dX6_firstUnlike_17 : decode cX6_firstUnlike 17 = .ok (.getfield 232, 3) := by decide +kernel
theorem dX6_firstUnlike_20 : decode cX6_firstUnlike 20 = .ok (.iload_n 2, 1) := by decide +kernel
theorem dX6_firstUnlike_21 : decode cX6_firstUnlike 21 = .ok (.iaload, 1) := by decide +kernel
theorem dX6_firstUnlike_22 : decode cX6_firstUnlike 22 = .ok (.aload_n 0, 1) := by decide +kernel
theorem dX6_firstUnlike_23 : decode cX6_firstUnlike 23 = .ok (.getfield 41, 3) := by decide +kernel
theorem dX6_firstUnlike_26 : decode cX6_firstUnlike 26 = .ok (.iload_n 2, 1) := by decide +kernel
theorem dX6_firstUnlike_27 : decode cX6_firstUnlike 27 = .ok (.invokevirtual 158, 3) := by decide +kernel
theorem dX6_firstUnlike_30 : decode cX6_firstUnlike 30 = .ok (.if_icmp .eq 5, 3) := by decide +kernel
theorem dX6_firstUnlike_33 : decode cX6_firstUnlike 33 = .ok (.iload_n 2, 1) := by decide +kernel
theorem dX6_firstUnlike_34 : decode cX6_firstUnlike 34 = .ok (.ireturn, 1) := by decide +kernel
theorem dX6_firstUnlike_35 : decode cX6_firstUnlike 35 = .ok (.iinc 2 1, 3) := by decide +kernel
theorem dX6_firstUnlike_38 : decode cX6_firstUnlike 38 = .ok (.goto (-36), 3) := by decide +kernel
theorem dX6_firstUnlike_41 : decode cX6_firstUnlike 41 = .ok (.iconst (-1), 1) := by decide +kernel
theorem dX6_firstUnlike_42 : decode cX6_firstUnlike 42 = .ok (.ireturn, 1) := by decide +kernel
theorem dX6_floor_0 : decode cX6_floor 0 = .ok (.iload_n 1, 1) := by decide +kernel
theorem dX6_floor_1 : decode cX6_floor 1 = .ok (.ifCond .lt 18, 3) := by decide +kernel
theorem dX6_floor_4 : decode cX6_floor 4 = .ok (.iload_n 1, 1) := by decide +kernel
theorem dX6_floor_5 : decode cX6_floor 5 = .ok (.bipush 10, 2) := by decide +kernel
theorem dX6_floor_7 : decode cX6_floor 7 = .ok (.if_icmp .ge 12, 3) := by decide +kernel
theorem dX6_floor_10 : decode cX6_floor 10 = .ok (.iload_n 2, 1) := by decide +kernel
theorem dX6_floor_11 : decode cX6_floor 11 = .ok (.ifCond .lt 8, 3) := by decide +kernel
theorem dX6_floor_14 : decode cX6_floor 14 = .ok (.iload_n 2, 1) := by decide +kernel
theorem dX6_floor_15 : decode cX6_floor 15 = .ok (.iconst 2, 1) := by decide +kernel
theorem dX6_floor_16 : decode cX6_floor 16 = .ok (.if_icmp .le 6, 3) := by decide +kernel
theorem dX6_floor_19 : decode cX6_floor 19 = .ok (.bipush (-2), 2) := by decide +kernel
theorem dX6_floor_21 : decode cX6_floor 21 = .ok (.ireturn, 1) := by decide +kernel
theorem dX6_floor_22 : decode cX6_floor 22 = .ok (.aload_n 0, 1) := by decide +kernel
theorem dX6_floor_23 : decode cX6_floor 23 = .ok (.invokevirtual 145, 3) := by decide +kernel
theorem dX6_floor_26 : decode cX6_floor 26 = .ok (.iload_n 2, 1) := by decide +kernel
theorem dX6_floor_27 : decode cX6_floor 27 = .ok (.ifCond .ne 12, 3) := by decide +kernel
theorem dX6_floor_30 : decode cX6_floor 30 = .ok (.aload_n 0, 1) := by decide +kernel
theorem dX6_floor_31 : decode cX6_floor 31 = .ok (.getfield 41, 3) := by decide +kernel
theorem dX6_floor_34 : decode cX6_floor 34 = .ok (.iload_n 1, 1) := by decide +kernel
theorem dX6_floor_35 : decode cX6_floor 35 = .ok (.invokevirtual 158, 3) := by decide +kernel
theorem dX6_floor_38 : decode cX6_floor 38 = .ok (.ireturn, 1) := by decide +kernel
theorem dX6_floor_39 : decode cX6_floor 39 = .ok (.iload_n 2, 1) := by decide +kernel
theorem dX6_floor_40 : decode cX6_floor 40 = .ok (.iconst 1, 1) := by decide +kernel
theorem dX6_floor_41 : decode cX6_floor 41 = .ok (.if_icmp .ne 22, 3) := by decide +kernel
theorem dX6_floor_44 : decode cX6_floor 44 = .ok (.aload_n 0, 1) := by decide +kernel
theorem dX6_floor_45 : decode cX6_floor 45 = .ok (.getfield 41, 3) := by decide +kernel
theorem dX6_floor_48 : decode cX6_floor 48 = .ok (.iload_n 1, 1) := by decide +kernel
theorem dX6_floor_49 : decode cX6_floor 49 = .ok (.aload_n 0, 1) := by decide +kernel
theorem dX6_floor_50 : decode cX6_floor 50 = .ok (.getfield 41, 3) := by decide +kernel
theorem dX6_floor_53 : decode cX6_floor 53 = .ok (.iload_n 1, 1) := by decide +kernel
theorem dX6_floor_54 : decode cX6_floor 54 = .ok (.invokevirtual 158, 3) := by decide +kernel
theorem dX6_floor_57 : decode cX6_floor 57 = .ok (.invokevirtual 161, 3) := by decide +kernel
theorem dX6_floor_60 : decode cX6_floor 60 = .ok (.goto 11, 3) := by decide +kernel
theorem dX6_floor_63 : decode cX6_floor 63 = .ok (.aload_n 0, 1) := by decide +kernel
theorem dX6_floor_64 : decode cX6_floor 64 = .ok (.getfield 41, 3) := by decide +kernel
theorem dX6_floor_67 : decode cX6_floor 67 = .ok (.iload_n 1, 1) := by decide +kernel
theorem dX6_floor_68 : decode cX6_floor 68 = .ok (.invokevirtual 164, 3) := by decide +kernel
theorem dX6_floor_71 : decode cX6_floor 71 = .ok (.ireturn, 1) := by decide +kernel
theorem dX6_force_0 : decode cX6_force 0 = .ok (.iload_n 1, 1) := by decide +kernel
theorem dX6_force_1 : decode cX6_force 1 = .ok (.ifCond .lt 11, 3) := by decide +kernel
theorem dX6_force_4 : decode cX6_force 4 = .ok (.iload_n 1, 1) := by decide +kernel
theorem dX6_force_5 : decode cX6_force 5 = .ok (.aload_n 0, 1) := by decide +kernel
theorem dX6_force_6 : decode cX6_force 6 = .ok (.getfield 55, 3) := by decide +kernel
theorem dX6_force_9 : decode cX6_force 9 = .ok (.if_icmp .lt 6, 3) := by decide +kernel
theorem dX6_force_12 : decode cX6_force 12 = .ok (.bipush (-2), 2) := by decide +kernel
theorem dX6_force_14 : decode cX6_force 14 = .ok (.ireturn, 1) := by decide +kernel
theorem dX6_force_15 : decode cX6_force 15 = .ok (.aload_n 0, 1) := by decide +kernel
theorem dX6_force_16 : decode cX6_force 16 = .ok (.getfield 10, 3) := by decide +kernel
theorem dX6_force_19 : decode cX6_force 19 = .ok (.getfield 142, 3) := by decide +kernel
theorem dX6_force_22 : decode cX6_force 22 = .ok (.istore_n 2, 1) := by decide +kernel
theorem dX6_force_23 : decode cX6_force 23 = .ok (.aload_n 0, 1) := by decide +kernel
theorem dX6_force_24 : decode cX6_force 24 = .ok (.getfield 10, 3) := by decide +kernel
theorem dX6_force_27 : decode cX6_force 27 = .ok (.iload_n 1, 1) := by decide +kernel
theorem dX6_force_28 : decode cX6_force 28 = .ok (.putfield 142, 3) := by decide +kernel
theorem dX6_force_31 : decode cX6_force 31 = .ok (.iload_n 2, 1) := by decide +kernel
theorem dX6_force_32 : decode cX6_force 32 = .ok (.ireturn, 1) := by decide +kernel
theorem dX6_image_0 : decode cX6_image 0 = .ok (.aload_n 0, 1) := by decide +kernel
theorem dX6_image_1 : decode cX6_image 1 = .ok (.getfield 16, 3) := by decide +kernel
theorem dX6_image_4 : decode cX6_image 4 = .ok (.aload_n 0, 1) := by decide +kernel
theorem dX6_image_5 : decode cX6_image 5 = .ok (.getfield 10, 3) := by decide +kernel
theorem dX6_image_8 : decode cX6_image 8 = .ok (.invokevirtual 238, 3) := by decide +kernel
theorem dX6_image_11 : decode cX6_image 11 = .ok (.aload_n 0, 1) := by decide +kernel
theorem dX6_image_12 : decode cX6_image 12 = .ok (.iconst 1, 1) := by decide +kernel
theorem dX6_image_13 : decode cX6_image 13 = .ok (.putfield 241, 3) := by decide +kernel
theorem dX6_image_16 : decode cX6_image 16 = .ok (.aload_n 0, 1) := by decide +kernel
theorem dX6_image_17 : decode cX6_image 17 = .ok (.getfield 16, 3) := by decide +kernel
theorem dX6_image_20 : decode cX6_image 20 = .ok (.getfield 98, 3) := by decide +kernel
theorem dX6_image_23 : decode cX6_image 23 = .ok (.ireturn, 1) := by decide +kernel
theorem dX6_inLowestTerms_0 : decode cX6_inLowestTerms 0 = .ok (.lload_n 0, 1) := by decide +kernel
theorem dX6_inLowestTerms_1 : decode cX6_inLowestTerms 1 = .ok (.lstore 5, 2) := by decide +kernel
theorem dX6_inLowestTerms_3 : decode cX6_inLowestTerms 3 = .ok (.lload_n 2, 1) := by decide +kernel
theorem dX6_inLowestTerms_4 : decode cX6_inLowestTerms 4 = .ok (.lstore 7, 2) := by decide +kernel
theorem dX6_inLowestTerms_6 : decode cX6_inLowestTerms 6 = .ok (.iconst 0, 1) := by decide +kernel
theorem dX6_inLowestTerms_7 : decode cX6_inLowestTerms 7 = .ok (.istore 9, 2) := by decide +kernel
theorem dX6_inLowestTerms_9 : decode cX6_inLowestTerms 9 = .ok (.iload 9, 2) := by decide +kernel
theorem dX6_inLowestTerms_11 : decode cX6_inLowestTerms 11 = .ok (.sipush 200, 3) := by decide +kernel
theorem dX6_inLowestTerms_14 : decode cX6_inLowestTerms 14 = .ok (.if_icmp .ge 31, 3) := by decide +kernel
theorem dX6_inLowestTerms_17 : decode cX6_inLowestTerms 17 = .ok (.lload 7, 2) := by decide +kernel
theorem dX6_inLowestTerms_19 : decode cX6_inLowestTerms 19 = .ok (.lconst 0, 1) := by decide +kernel
theorem dX6_inLowestTerms_20 : decode cX6_inLowestTerms 20 = .ok (.lcmp, 1) := by decide +kernel
theorem dX6_inLowestTerms_21 : decode cX6_inLowestTerms 21 = .ok (.ifCond .eq 24, 3) := by decide +kernel
theorem dX6_inLowestTerms_24 : decode cX6_inLowestTerms 24 = .ok (.lload 5, 2) := by decide +kernel
theorem dX6_inLowestTerms_26 : decode cX6_inLowestTerms 26 = .ok (.lload 7, 2) := by decide +kernel
theorem dX6_inLowestTerms_28 : decode cX6_inLowestTerms 28 = .ok (.lrem, 1) := by decide +kernel
theorem dX6_inLowestTerms_29 : decode cX6_inLowestTerms 29 = .ok (.lstore 10, 2) := by decide +kernel
theorem dX6_inLowestTerms_31 : decode cX6_inLowestTerms 31 = .ok (.lload 7, 2) := by decide +kernel
theorem dX6_inLowestTerms_33 : decode cX6_inLowestTerms 33 = .ok (.lstore 5, 2) := by decide +kernel
theorem dX6_inLowestTerms_35 : decode cX6_inLowestTerms 35 = .ok (.lload 10, 2) := by decide +kernel
theorem dX6_inLowestTerms_37 : decode cX6_inLowestTerms 37 = .ok (.lstore 7, 2) := by decide +kernel
theorem dX6_inLowestTerms_39 : decode cX6_inLowestTerms 39 = .ok (.iinc 9 1, 3) := by decide +kernel
theorem dX6_inLowestTerms_42 : decode cX6_inLowestTerms 42 = .ok (.goto (-33), 3) := by decide +kernel
theorem dX6_inLowestTerms_45 : decode cX6_inLowestTerms 45 = .ok (.iload 4, 2) := by decide +kernel
theorem dX6_inLowestTerms_47 : decode cX6_inLowestTerms 47 = .ok (.ifCond .ne 7, 3) := by decide +kernel
theorem dX6_inLowestTerms_50 : decode cX6_inLowestTerms 50 = .ok (.lload_n 0, 1) := by decide +kernel
theorem dX6_inLowestTerms_51 : decode cX6_inLowestTerms 51 = .ok (.goto 4, 3) := by decide +kernel
theorem dX6_inLowestTerms_54 : decode cX6_inLowestTerms 54 = .ok (.lload_n 2, 1) := by decide +kernel
theorem dX6_inLowestTerms_55 : decode cX6_inLowestTerms 55 = .ok (.lstore 9, 2) := by decide +kernel
theorem dX6_inLowestTerms_57 : decode cX6_inLowestTerms 57 = .ok (.lload 5, 2) := by decide +kernel
theorem dX6_inLowestTerms_59 : decode cX6_inLowestTerms 59 = .ok (.lconst 0, 1) := by decide +kernel
theorem dX6_inLowestTerms_60 : decode cX6_inLowestTerms 60 = .ok (.lcmp, 1) := by decide +kernel
theorem dX6_inLowestTerms_61 : decode cX6_inLowestTerms 61 = .ok (.ifCond .ne 8, 3) := by decide +kernel
theorem dX6_inLowestTerms_64 : decode cX6_inLowestTerms 64 = .ok (.lload 9, 2) := by decide +kernel
theorem dX6_inLowestTerms_66 : decode cX6_inLowestTerms 66 = .ok (.goto 8, 3) := by decide +kernel
theorem dX6_inLowestTerms_69 : decode cX6_inLowestTerms 69 = .ok (.lload 9, 2) := by decide +kernel
theorem dX6_inLowestTerms_71 : decode cX6_inLowestTerms 71 = .ok (.lload 5, 2) := by decide +kernel
theorem dX6_inLowestTerms_73 : decode cX6_inLowestTerms 73 = .ok (.ldiv, 1) := by decide +kernel
theorem dX6_inLowestTerms_74 : decode cX6_inLowestTerms 74 = .ok (.lreturn, 1) := by decide +kernel
theorem dX6_init_0 : decode cX6_init 0 = .ok (.aload_n 0, 1) := by decide +kernel
theorem dX6_init_1 : decode cX6_init 1 = .ok (.invokespecial 1, 3) := by decide +kernel
theorem dX6_init_4 : decode cX6_init 4 = .ok (.aload_n 0, 1) := by decide +kernel
theorem dX6_init_5 : decode cX6_init 5 = .ok (.new 7, 3) := by decide +kernel
theorem dX6_init_8 : decode cX6_init 8 = .ok (.dup, 1) := by decide +kernel
theorem dX6_init_9 : decode cX6_init 9 = .ok (.invokespecial 9, 3) := by decide +kernel
theorem dX6_init_12 : decode cX6_init 12 = .ok (.putfield 10, 3) := by decide +kernel
theorem dX6_init_15 : decode cX6_init 15 = .ok (.aload_n 0, 1) := by decide +kernel
theorem dX6_init_16 : decode cX6_init 16 = .ok (.new 7, 3) := by decide +kernel
theorem dX6_init_19 : decode cX6_init 19 = .ok (.dup, 1) := by decide +kernel
theorem dX6_init_20 : decode cX6_init 20 = .ok (.invokespecial 9, 3) := by decide +kernel
theorem dX6_init_23 : decode cX6_init 23 = .ok (.putfield 16, 3) := by decide +kernel
theorem dX6_init_26 : decode cX6_init 26 = .ok (.aload_n 0, 1) := by decide +kernel
theorem dX6_init_27 : decode cX6_init 27 = .ok (.new 19, 3) := by decide +kernel
theorem dX6_init_30 : decode cX6_init 30 = .ok (.dup, 1) := by decide +kernel
theorem dX6_init_31 : decode cX6_init 31 = .ok (.invokespecial 21, 3) := by decide +kernel
theorem dX6_init_34 : decode cX6_init 34 = .ok (.putfield 22, 3) := by decide +kernel
theorem dX6_init_37 : decode cX6_init 37 = .ok (.aload_n 0, 1) := by decide +kernel
theorem dX6_init_38 : decode cX6_init 38 = .ok (.bipush 6, 2) := by decide +kernel
theorem dX6_init_40 : decode cX6_init 40 = .ok (.anewarray 26, 3) := by decide +kernel
theorem dX6_init_43 : decode cX6_init 43 = .ok (.putfield 28, 3) := by decide +kernel
theorem dX6_init_46 : decode cX6_init 46 = .ok (.aload_n 0, 1) := by decide +kernel
theorem dX6_init_47 : decode cX6_init 47 = .ok (.iconst 4, 1) := by decide +kernel
theorem dX6_init_48 : decode cX6_init 48 = .ok (.anewarray 32, 3) := by decide +kernel
theorem dX6_init_51 : decode cX6_init 51 = .ok (.putfield 34, 3) := by decide +kernel
theorem dX6_init_54 : decode cX6_init 54 = .ok (.aload_n 0, 1) := by decide +kernel
theorem dX6_init_55 : decode cX6_init 55 = .ok (.new 38, 3) := by decide +kernel
theorem dX6_init_58 : decode cX6_init 58 = .ok (.dup, 1) := by decide +kernel
theorem dX6_init_59 : decode cX6_init 59 = .ok (.invokespecial 40, 3) := by decide +kernel
theorem dX6_init_62 : decode cX6_init 62 = .ok (.putfield 41, 3) := by decide +kernel
theorem dX6_init_65 : decode cX6_init 65 = .ok (.aload_n 0, 1) := by decide +kernel
theorem dX6_init_66 : decode cX6_init 66 = .ok (.new 45, 3) := by decide +kernel
theorem dX6_init_69 : decode cX6_init 69 = .ok (.dup, 1) := by decide +kernel
theorem dX6_init_70 : decode cX6_init 70 = .ok (.invokespecial 47, 3) := by decide +kernel
theorem dX6_init_73 : decode cX6_init 73 = .ok (.putfield 48, 3) := by decide +kernel
theorem dX6_init_76 : decode cX6_init 76 = .ok (.aload_n 0, 1) := by decide +kernel
theorem dX6_init_77 : decode cX6_init 77 = .ok (.getfield 28, 3) := by decide +kernel
theorem dX6_init_80 : decode cX6_init 80 = .ok (.iconst 0, 1) := by decide +kernel
theorem dX6_init_81 : decode cX6_init 81 = .ok (.new 26, 3) := by decide +kernel
theorem dX6_init_84 : decode cX6_init 84 = .ok (.dup, 1) := by decide +kernel
theorem dX6_init_85 : decode cX6_init 85 = .ok (.iconst 3, 1) := by decide +kernel
theorem dX6_init_86 : decode cX6_init 86 = .ok (.newarray .int, 2) := by decide +kernel
theorem dX6_init_88 : decode cX6_init 88 = .ok (.dup, 1) := by decide +kernel
theorem dX6_init_89 : decode cX6_init 89 = .ok (.iconst 0, 1) := by decide +kernel
theorem dX6_init_90 : decode cX6_init 90 = .ok (.iconst 5, 1) := by decide +kernel
theorem dX6_init_91 : decode cX6_init 91 = .ok (.iastore, 1) := by decide +kernel
theorem dX6_init_92 : decode cX6_init 92 = .ok (.dup, 1) := by decide +kernel
theorem dX6_init_93 : decode cX6_init 93 = .ok (.iconst 1, 1) := by decide +kernel
theorem dX6_init_94 : decode cX6_init 94 = .ok (.iconst 1, 1) := by decide +kernel
theorem dX6_init_95 : decode cX6_init 95 = .ok (.iastore, 1) := by decide +kernel
theorem dX6_init_96 : decode cX6_init 96 = .ok (.dup, 1) := by decide +kernel
theorem dX6_init_97 : decode cX6_init 97 = .ok (.iconst 2, 1) := by decide +kernel
theorem dX6_init_98 : decode cX6_init 98 = .ok (.iconst 3, 1) := by decide +kernel
theorem dX6_init_99 : decode cX6_init 99 = .ok (.iastore, 1) := by decide +kernel
theorem dX6_init_100 : decode cX6_init 100 = .ok (.iconst 3, 1) := by decide +kernel
theorem dX6_init_101 : decode cX6_init 101 = .ok (.newarray .int, 2) := by decide +kernel
theorem dX6_init_103 : decode cX6_init 103 = .ok (.dup, 1) := by decide +kernel
theorem dX6_init_104 : decode cX6_init 104 = .ok (.iconst 0, 1) := by decide +kernel
theorem dX6_init_105 : decode cX6_init 105 = .ok (.iconst 1, 1) := by decide +kernel
theorem dX6_init_106 : decode cX6_init 106 = .ok (.iastore, 1) := by decide +kernel
theorem dX6_init_107 : decode cX6_init 107 = .ok (.dup, 1) := by decide +kernel
theorem dX6_init_108 : decode cX6_init 108 = .ok (.iconst 1, 1) := by decide +kernel
theorem dX6_init_109 : decode cX6_init 109 = .ok (.iconst 2, 1) := by decide +kernel
theorem dX6_init_110 : decode cX6_init 110 = .ok (.iastore, 1) := by decide +kernel
theorem dX6_init_111 : decode cX6_init 111 = .ok (.dup, 1) := by decide +kernel
theorem dX6_init_112 : decode cX6_init 112 = .ok (.iconst 2, 1) := by decide +kernel
theorem dX6_init_113 : decode cX6_init 113 = .ok (.iconst 3, 1) := by decide +kernel
theorem dX6_init_114 : decode cX6_init 114 = .ok (.iastore, 1) := by decide +kernel
theorem dX6_init_115 : decode cX6_init 115 = .ok (.invokespecial 52, 3) := by decide +kernel
theorem dX6_init_118 : decode cX6_init 118 = .ok (.aastore, 1) := by decide +kernel
theorem dX6_init_119 : decode cX6_init 119 = .ok (.aload_n 0, 1) := by decide +kernel
theorem dX6_init_120 : decode cX6_init 120 = .ok (.iconst 1, 1) := by decide +kernel
theorem dX6_init_121 : decode cX6_init 121 = .ok (.putfield 55, 3) := by decide +kernel
theorem dX6_init_124 : decode cX6_init 124 = .ok (.iconst 0, 1) := by decide +kernel
theorem dX6_init_125 : decode cX6_init 125 = .ok (.istore_n 1, 1) := by decide +kernel
theorem dX6_init_126 : decode cX6_init 126 = .ok (.iload_n 1, 1) := by decide +kernel
theorem dX6_init_127 : decode cX6_init 127 = .ok (.iconst 4, 1) := by decide +kernel
theorem dX6_init_128 : decode cX6_init 128 = .ok (.if_icmp .ge 22, 3) := by decide +kernel
theorem dX6_init_131 : decode cX6_init 131 = .ok (.aload_n 0, 1) := by decide +kernel
theorem dX6_init_132 : decode cX6_init 132 = .ok (.getfield 34, 3) := by decide +kernel
theorem dX6_init_135 : decode cX6_init 135 = .ok (.iload_n 1, 1) := by decide +kernel
theorem dX6_init_136 : decode cX6_init 136 = .ok (.new 32, 3) := by decide +kernel
theorem dX6_init_139 : decode cX6_init 139 = .ok (.dup, 1) := by decide +kernel
theorem dX6_init_140 : decode cX6_init 140 = .ok (.invokespecial 59, 3) := by decide +kernel
theorem dX6_init_143 : decode cX6_init 143 = .ok (.aastore, 1) := by decide +kernel
theorem dX6_init_144 : decode cX6_init 144 = .ok (.iinc 1 1, 3) := by decide +kernel
theorem dX6_init_147 : decode cX6_init 147 = .ok (.goto (-21), 3) := by decide +kernel
theorem dX6_init_150 : decode cX6_init 150 = .ok (.return_, 1) := by decide +kernel
theorem dX6_isSheet_0 : decode cX6_isSheet 0 = .ok (.iload_n 0, 1) := by decide +kernel
theorem dX6_isSheet_1 : decode cX6_isSheet 1 = .ok (.ifCond .lt 12, 3) := by decide +kernel
theorem dX6_isSheet_4 : decode cX6_isSheet 4 = .ok (.iload_n 0, 1) := by decide +kernel
theorem dX6_isSheet_5 : decode cX6_isSheet 5 = .ok (.iconst 4, 1) := by decide +kernel
theorem dX6_isSheet_6 : decode cX6_isSheet 6 = .ok (.if_icmp .ge 7, 3) := by decide +kernel
theorem dX6_isSheet_9 : decode cX6_isSheet 9 = .ok (.iconst 1, 1) := by decide +kernel
theorem dX6_isSheet_10 : decode cX6_isSheet 10 = .ok (.goto 4, 3) := by decide +kernel
theorem dX6_isSheet_13 : decode cX6_isSheet 13 = .ok (.iconst 0, 1) := by decide +kernel
theorem dX6_isSheet_14 : decode cX6_isSheet 14 = .ok (.ireturn, 1) := by decide +kernel
theorem dX6_isUnder_0 : decode cX6_isUnder 0 = .ok (.iload_n 0, 1) := by decide +kernel
theorem dX6_isUnder_1 : decode cX6_isUnder 1 = .ok (.istore_n 2, 1) := by decide +kernel
theorem dX6_isUnder_2 : decode cX6_isUnder 2 = .ok (.iconst 0, 1) := by decide +kernel
theorem dX6_isUnder_3 : decode cX6_isUnder 3 = .ok (.istore_n 3, 1) := by decide +kernel
theorem dX6_isUnder_4 : decode cX6_isUnder 4 = .ok (.iload_n 3, 1) := by decide +kernel
theorem dX6_isUnder_5 : decode cX6_isUnder 5 = .ok (.bipush 6, 2) := by decide +kernel
theorem dX6_isUnder_7 : decode cX6_isUnder 7 = .ok (.if_icmp .ge 32, 3) := by decide +kernel
theorem dX6_isUnder_10 : decode cX6_isUnder 10 = .ok (.iload_n 2, 1) := by decide +kernel
theorem dX6_isUnder_11 : decode cX6_isUnder 11 = .ok (.ifCond .lt 28, 3) := by decide +kernel
theorem dX6_isUnder_14 : decode cX6_isUnder 14 = .ok (.iload_n 2, 1) := by decide +kernel
theorem dX6_isUnder_15 : decode cX6_isUnder 15 = .ok (.bipush 6, 2) := by decide +kernel
theorem dX6_isUnder_17 : decode cX6_isUnder 17 = .ok (.if_icmp .ge 22, 3) := by decide +kernel
theorem dX6_isUnder_20 : decode cX6_isUnder 20 = .ok (.iload_n 2, 1) := by decide +kernel
theorem dX6_isUnder_21 : decode cX6_isUnder 21 = .ok (.iload_n 1, 1) := by decide +kernel
theorem dX6_isUnder_22 : decode cX6_isUnder 22 = .ok (.if_icmp .ne 5, 3) := by decide +kernel
theorem dX6_isUnder_25 : decode cX6_isUnder 25 = .ok (.iconst 1, 1) := by decide +kernel
theorem dX6_isUnder_26 : decode cX6_isUnder 26 = .ok (.ireturn, 1) := by decide +kernel
theorem dX6_isUnder_27 : decode cX6_isUnder 27 = .ok (.getstatic 268, 3) := by decide +kernel
theorem dX6_isUnder_30 : decode cX6_isUnder 30 = .ok (.iload_n 2, 1) := by decide +kernel
theorem dX6_isUnder_31 : decode cX6_isUnder 31 = .ok (.iaload, 1) := by decide +kernel
theorem dX6_isUnder_32 : decode cX6_isUnder 32 = .ok (.istore_n 2, 1) := by decide +kernel
theorem dX6_isUnder_33 : decode cX6_isUnder 33 = .ok (.iinc 3 1, 3) := by decide +kernel
theorem dX6_isUnder_36 : decode cX6_isUnder 36 = .ok (.goto (-32), 3) := by decide +kernel
theorem dX6_isUnder_39 : decode cX6_isUnder 39 = .ok (.iconst 0, 1) := by decide +kernel
theorem dX6_isUnder_40 : decode cX6_isUnder 40 = .ok (.ireturn, 1) := by decide +kernel
theorem dX6_isWay_0 : decode cX6_isWay 0 = .ok (.iload_n 0, 1) := by decide +kernel
theorem dX6_isWay_1 : decode cX6_isWay 1 = .ok (.ifCond .lt 39, 3) := by decide +kernel
theorem dX6_isWay_4 : decode cX6_isWay 4 = .ok (.iload_n 0, 1) := by decide +kernel
theorem dX6_isWay_5 : decode cX6_isWay 5 = .ok (.bipush 100, 2) := by decide +kernel
theorem dX6_isWay_7 : decode cX6_isWay 7 = .ok (.idiv, 1) := by decide +kernel
theorem dX6_isWay_8 : decode cX6_isWay 8 = .ok (.bipush 9, 2) := by decide +kernel
theorem dX6_isWay_10 : decode cX6_isWay 10 = .ok (.if_icmp .ge 30, 3) := by decide +kernel
theorem dX6_isWay_13 : decode cX6_isWay 13 = .ok (.iload_n 0, 1) := by decide +kernel
theorem dX6_isWay_14 : decode cX6_isWay 14 = .ok (.bipush 10, 2) := by decide +kernel
theorem dX6_isWay_16 : decode cX6_isWay 16 = .ok (.idiv, 1) := by decide +kernel
theorem dX6_isWay_17 : decode cX6_isWay 17 = .ok (.bipush 10, 2) := by decide +kernel
theorem dX6_isWay_19 : decode cX6_isWay 19 = .ok (.irem, 1) := by decide +kernel
theorem dX6_isWay_20 : decode cX6_isWay 20 = .ok (.iload_n 0, 1) := by decide +kernel
theorem dX6_isWay_21 : decode cX6_isWay 21 = .ok (.bipush 100, 2) := by decide +kernel
theorem dX6_isWay_23 : decode cX6_isWay 23 = .ok (.idiv, 1) := by decide +kernel
theorem dX6_isWay_24 : decode cX6_isWay 24 = .ok (.if_icmp .le 16, 3) := by decide +kernel
theorem dX6_isWay_27 : decode cX6_isWay 27 = .ok (.iload_n 0, 1) := by decide +kernel
theorem dX6_isWay_28 : decode cX6_isWay 28 = .ok (.bipush 10, 2) := by decide +kernel
theorem dX6_isWay_30 : decode cX6_isWay 30 = .ok (.irem, 1) := by decide +kernel
theorem dX6_isWay_31 : decode cX6_isWay 31 = .ok (.bipush 6, 2) := by decide +kernel
theorem dX6_isWay_33 : decode cX6_isWay 33 = .ok (.if_icmp .ge 7, 3) := by decide +kernel
theorem dX6_isWay_36 : decode cX6_isWay 36 = .ok (.iconst 1, 1) := by decide +kernel
theorem dX6_isWay_37 : decode cX6_isWay 37 = .ok (.goto 4, 3) := by decide +kernel
theorem dX6_isWay_40 : decode cX6_isWay 40 = .ok (.iconst 0, 1) := by decide +kernel
theorem dX6_isWay_41 : decode cX6_isWay 41 = .ok (.ireturn, 1) := by decide +kernel
theorem dX6_landings_0 : decode cX6_landings 0 = .ok (.iload_n 1, 1) := by decide +kernel
theorem dX6_landings_1 : decode cX6_landings 1 = .ok (.invokestatic 214, 3) := by decide +kernel
theorem dX6_landings_4 : decode cX6_landings 4 = .ok (.ifCond .ne 6, 3) := by decide +kernel
theorem dX6_landings_7 : decode cX6_landings 7 = .ok (.bipush (-2), 2) := by decide +kernel
theorem dX6_landings_9 : decode cX6_landings 9 = .ok (.ireturn, 1) := by decide +kernel
theorem dX6_landings_10 : decode cX6_landings 10 = .ok (.aload_n 0, 1) := by decide +kernel
theorem dX6_landings_11 : decode cX6_landings 11 = .ok (.getfield 34, 3) := by decide +kernel
theorem dX6_landings_14 : decode cX6_landings 14 = .ok (.iload_n 1, 1) := by decide +kernel
theorem dX6_landings_15 : decode cX6_landings 15 = .ok (.aaload, 1) := by decide +kernel
theorem dX6_landings_16 : decode cX6_landings 16 = .ok (.invokestatic 217, 3) := by decide +kernel
theorem dX6_landings_19 : decode cX6_landings 19 = .ok (.istore_n 2, 1) := by decide +kernel
theorem dX6_landings_20 : decode cX6_landings 20 = .ok (.iload_n 2, 1) := by decide +kernel
theorem dX6_landings_21 : decode cX6_landings 21 = .ok (.ifCond .eq 5, 3) := by decide +kernel
theorem dX6_landings_24 : decode cX6_landings 24 = .ok (.iload_n 2, 1) := by decide +kernel
theorem dX6_landings_25 : decode cX6_landings 25 = .ok (.ireturn, 1) := by decide +kernel
theorem dX6_landings_26 : decode cX6_landings 26 = .ok (.aload_n 0, 1) := by decide +kernel
theorem dX6_landings_27 : decode cX6_landings 27 = .ok (.invokevirtual 145, 3) := by decide +kernel
theorem dX6_landings_30 : decode cX6_landings 30 = .ok (.aload_n 0, 1) := by decide +kernel
theorem dX6_landings_31 : decode cX6_landings 31 = .ok (.aload_n 0, 1) := by decide +kernel
theorem dX6_landings_32 : decode cX6_landings 32 = .ok (.getfield 34, 3) := by decide +kernel
theorem dX6_landings_35 : decode cX6_landings 35 = .ok (.iload_n 1, 1) := by decide +kernel
theorem dX6_landings_36 : decode cX6_landings 36 = .ok (.aaload, 1) := by decide +kernel
theorem dX6_landings_37 : decode cX6_landings 37 = .ok (.invokevirtual 221, 3) := by decide +kernel
theorem dX6_landings_40 : decode cX6_landings 40 = .ok (.ireturn, 1) := by decide +kernel
theorem dX6_leastOf_0 : decode cX6_leastOf 0 = .ok (.iload_n 1, 1) := by decide +kernel
theorem dX6_leastOf_1 : decode cX6_leastOf 1 = .ok (.iconst 3, 1) := by decide +kernel
theorem dX6_leastOf_2 : decode cX6_leastOf 2 = .ok (.if_icmp .ne 17, 3) := by decide +kernel
theorem dX6_leastOf_5 : decode cX6_leastOf 5 = .ok (.aload_n 0, 1) := by decide +kernel
theorem dX6_leastOf_6 : decode cX6_leastOf 6 = .ok (.getfield 10, 3) := by decide +kernel
theorem dX6_leastOf_9 : decode cX6_leastOf 9 = .ok (.getfield 107, 3) := by decide +kernel
theorem dX6_leastOf_12 : decode cX6_leastOf 12 = .ok (.iload_n 2, 1) := by decide +kernel
theorem dX6_leastOf_13 : decode cX6_leastOf 13 = .ok (.iaload, 1) := by decide +kernel
theorem dX6_leastOf_14 : decode cX6_leastOf 14 = .ok (.iconst 1, 1) := by decide +kernel
theorem dX6_leastOf_15 : decode cX6_leastOf 15 = .ok (.iadd, 1) := by decide +kernel
theorem dX6_leastOf_16 : decode cX6_leastOf 16 = .ok (.goto 4, 3) := by decide +kernel
theorem dX6_leastOf_19 : decode cX6_leastOf 19 = .ok (.iconst 0, 1) := by decide +kernel
theorem dX6_leastOf_20 : decode cX6_leastOf 20 = .ok (.ireturn, 1) := by decide +kernel
theorem dX6_lets_0 : decode cX6_lets 0 = .ok (.aload_n 0, 1) := by decide +kernel
theorem dX6_lets_1 : decode cX6_lets 1 = .ok (.getfield 10, 3) := by decide +kernel
theorem dX6_lets_4 : decode cX6_lets 4 = .ok (.iload_n 1, 1) := by decide +kernel
theorem dX6_lets_5 : decode cX6_lets 5 = .ok (.invokevirtual 68, 3) := by decide +kernel
theorem dX6_lets_8 : decode cX6_lets 8 = .ok (.ifCond .eq 19, 3) := by decide +kernel
theorem dX6_lets_11 : decode cX6_lets 11 = .ok (.aload_n 0, 1) := by decide +kernel
theorem dX6_lets_12 : decode cX6_lets 12 = .ok (.getfield 10, 3) := by decide +kernel
theorem dX6_lets_15 : decode cX6_lets 15 = .ok (.iload_n 2, 1) := by decide +kernel
theorem dX6_lets_16 : decode cX6_lets 16 = .ok (.invokevirtual 68, 3) := by decide +kernel
theorem dX6_lets_19 : decode cX6_lets 19 = .ok (.ifCond .eq 8, 3) := by decide +kernel
theorem dX6_lets_22 : decode cX6_lets 22 = .ok (.iload_n 1, 1) := by decide +kernel
theorem dX6_lets_23 : decode cX6_lets 23 = .ok (.iload_n 2, 1) := by decide +kernel
theorem dX6_lets_24 : decode cX6_lets 24 = .ok (.if_icmp .ne 6, 3) := by decide +kernel
theorem dX6_lets_27 : decode cX6_lets 27 = .ok (.bipush (-2), 2) := by decide +kernel
theorem dX6_lets_29 : decode cX6_lets 29 = .ok (.ireturn, 1) := by decide +kernel
theorem dX6_lets_30 : decode cX6_lets 30 = .ok (.aload_n 0, 1) := by decide +kernel
theorem dX6_lets_31 : decode cX6_lets 31 = .ok (.getfield 10, 3) := by decide +kernel
theorem dX6_lets_34 : decode cX6_lets 34 = .ok (.iload_n 1, 1) := by decide +kernel
theorem dX6_lets_35 : decode cX6_lets 35 = .ok (.aload_n 0, 1) := by decide +kernel
theorem dX6_lets_36 : decode cX6_lets 36 = .ok (.getfield 10, 3) := by decide +kernel
theorem dX6_lets_39 : decode cX6_lets 39 = .ok (.getfield 87, 3) := by decide +kernel
theorem dX6_lets_42 : decode cX6_lets 42 = .ok (.iload_n 2, 1) := by decide +kernel
theorem dX6_lets_43 : decode cX6_lets 43 = .ok (.iaload, 1) := by decide +kernel
theorem dX6_lets_44 : decode cX6_lets 44 = .ok (.invokevirtual 91, 3) := by decide +kernel
theorem dX6_lets_47 : decode cX6_lets 47 = .ok (.ifCond .eq 7, 3) := by decide +kernel
theorem dX6_lets_50 : decode cX6_lets 50 = .ok (.iconst 1, 1) := by decide +kernel
theorem dX6_lets_51 : decode cX6_lets 51 = .ok (.goto 4, 3) := by decide +kernel
theorem dX6_lets_54 : decode cX6_lets 54 = .ok (.iconst 0, 1) := by decide +kernel
theorem dX6_lets_55 : decode cX6_lets 55 = .ok (.ireturn, 1) := by decide +kernel
theorem dX6_mean_0 : decode cX6_mean 0 = .ok (.iload_n 1, 1) := by decide +kernel
theorem dX6_mean_1 : decode cX6_mean 1 = .ok (.ifCond .lt 17, 3) := by decide +kernel
theorem dX6_mean_4 : decode cX6_mean 4 = .ok (.iload_n 1, 1) := by decide +kernel
theorem dX6_mean_5 : decode cX6_mean 5 = .ok (.iconst 1, 1) := by decide +kernel
theorem dX6_mean_6 : decode cX6_mean 6 = .ok (.if_icmp .gt 12, 3) := by decide +kernel
theorem dX6_mean_9 : decode cX6_mean 9 = .ok (.iload_n 2, 1) := by decide +kernel
theorem dX6_mean_10 : decode cX6_mean 10 = .ok (.ifCond .lt 8, 3) := by decide +kernel
theorem dX6_mean_13 : decode cX6_mean 13 = .ok (.iload_n 2, 1) := by decide +kernel
theorem dX6_mean_14 : decode cX6_mean 14 = .ok (.iconst 1, 1) := by decide +kernel
theorem dX6_mean_15 : decode cX6_mean 15 = .ok (.if_icmp .le 7, 3) := by decide +kernel
theorem dX6_mean_18 : decode cX6_mean 18 = .ok (.ldc2_w 195, 3) := by decide +kernel
theorem dX6_mean_21 : decode cX6_mean 21 = .ok (.lreturn, 1) := by decide +kernel
theorem dX6_mean_22 : decode cX6_mean 22 = .ok (.aload_n 0, 1) := by decide +kernel
theorem dX6_mean_23 : decode cX6_mean 23 = .ok (.invokevirtual 145, 3) := by decide +kernel
theorem dX6_mean_26 : decode cX6_mean 26 = .ok (.lconst 1, 1) := by decide +kernel
theorem dX6_mean_27 : decode cX6_mean 27 = .ok (.lstore_n 3, 1) := by decide +kernel
theorem dX6_mean_28 : decode cX6_mean 28 = .ok (.iconst 0, 1) := by decide +kernel
theorem dX6_mean_29 : decode cX6_mean 29 = .ok (.istore 5, 2) := by decide +kernel
theorem dX6_mean_31 : decode cX6_mean 31 = .ok (.iload 5, 2) := by decide +kernel
theorem dX6_mean_33 : decode cX6_mean 33 = .ok (.aload_n 0, 1) := by decide +kernel
theorem dX6_mean_34 : decode cX6_mean 34 = .ok (.getfield 10, 3) := by decide +kernel
theorem dX6_mean_37 : decode cX6_mean 37 = .ok (.getfield 98, 3) := by decide +kernel
theorem dX6_mean_40 : decode cX6_mean 40 = .ok (.if_icmp .ge 15, 3) := by decide +kernel
theorem dX6_mean_43 : decode cX6_mean 43 = .ok (.lload_n 3, 1) := by decide +kernel
theorem dX6_mean_44 : decode cX6_mean 44 = .ok (.ldc2_w 197, 3) := by decide +kernel
theorem dX6_mean_47 : decode cX6_mean 47 = .ok (.lmul, 1) := by decide +kernel
theorem dX6_mean_48 : decode cX6_mean 48 = .ok (.lstore_n 3, 1) := by decide +kernel
theorem dX6_mean_49 : decode cX6_mean 49 = .ok (.iinc 5 1, 3) := by decide +kernel
theorem dX6_mean_52 : decode cX6_mean 52 = .ok (.goto (-21), 3) := by decide +kernel
theorem dX6_mean_55 : decode cX6_mean 55 = .ok (.lconst 0, 1) := by decide +kernel
theorem dX6_mean_56 : decode cX6_mean 56 = .ok (.lstore 5, 2) := by decide +kernel
theorem dX6_mean_58 : decode cX6_mean 58 = .ok (.iconst 0, 1) := by decide +kernel
theorem dX6_mean_59 : decode cX6_mean 59 = .ok (.istore 7, 2) := by decide +kernel
theorem dX6_mean_61 : decode cX6_mean 61 = .ok (.iload 7, 2) := by decide +kernel
theorem dX6_mean_63 : decode cX6_mean 63 = .ok (.iconst 1, 1) := by decide +kernel
theorem dX6_mean_64 : decode cX6_mean 64 = .ok (.aload_n 0, 1) := by decide +kernel
theorem dX6_mean_65 : decode cX6_mean 65 = .ok (.getfield 10, 3) := by decide +kernel
theorem dX6_mean_68 : decode cX6_mean 68 = .ok (.getfield 98, 3) := by decide +kernel
theorem dX6_mean_71 : decode cX6_mean 71 = .ok (.ishl, 1) := by decide +kernel
theorem dX6_mean_72 : decode cX6_mean 72 = .ok (.if_icmp .ge 71, 3) := by decide +kernel
theorem dX6_mean_75 : decode cX6_mean 75 = .ok (.aload_n 0, 1) := by decide +kernel
theorem dX6_mean_76 : decode cX6_mean 76 = .ok (.iload 7, 2) := by decide +kernel
theorem dX6_mean_78 : decode cX6_mean 78 = .ok (.invokevirtual 199, 3) := by decide +kernel
theorem dX6_mean_81 : decode cX6_mean 81 = .ok (.lstore 8, 2) := by decide +kernel
theorem dX6_mean_83 : decode cX6_mean 83 = .ok (.lload 8, 2) := by decide +kernel
theorem dX6_mean_85 : decode cX6_mean 85 = .ok (.lconst 0, 1) := by decide +kernel
theorem dX6_mean_86 : decode cX6_mean 86 = .ok (.lcmp, 1) := by decide +kernel
theorem dX6_mean_87 : decode cX6_mean 87 = .ok (.ifCond .eq 50, 3) := by decide +kernel
theorem dX6_mean_90 : decode cX6_mean 90 = .ok (.aload_n 0, 1) := by decide +kernel
theorem dX6_mean_91 : decode cX6_mean 91 = .ok (.getfield 41, 3) := by decide +kernel
theorem dX6_mean_94 : decode cX6_mean 94 = .ok (.iload 7, 2) := by decide +kernel
theorem dX6_mean_96 : decode cX6_mean 96 = .ok (.invokevirtual 203, 3) := by decide +kernel
theorem dX6_mean_99 : decode cX6_mean 99 = .ok (.lload 5, 2) := by decide +kernel
theorem dX6_mean_101 : decode cX6_mean 101 = .ok (.lload 8, 2) := by decide +kernel
theorem dX6_mean_103 : decode cX6_mean 103 = .ok (.iload_n 1, 1) := by decide +kernel
theorem dX6_mean_104 : decode cX6_mean 104 = .ok (.ifCond .ne 13, 3) := by decide +kernel
theorem dX6_mean_107 : decode cX6_mean 107 = .ok (.aload_n 0, 1) := by decide +kernel
theorem dX6_mean_108 : decode cX6_mean 108 = .ok (.getfield 41, 3) := by decide +kernel
theorem dX6_mean_111 : decode cX6_mean 111 = .ok (.invokevirtual 148, 3) := by decide +kernel
theorem dX6_mean_114 : decode cX6_mean 114 = .ok (.goto 18, 3) := by decide +kernel
theorem dX6_mean_117 : decode cX6_mean 117 = .ok (.aload_n 0, 1) := by decide +kernel
theorem dX6_mean_118 : decode cX6_mean 118 = .ok (.getfield 41, 3) := by decide +kernel
theorem dX6_mean_121 : decode cX6_mean 121 = .ok (.invokevirtual 152, 3) := by decide +kernel
theorem dX6_mean_124 : decode cX6_mean 124 = .ok (.ifCond .ne 7, 3) := by decide +kernel
theorem dX6_mean_127 : decode cX6_mean 127 = .ok (.iconst 1, 1) := by decide +kernel
theorem dX6_mean_128 : decode cX6_mean 128 = .ok (.goto 4, 3) := by decide +kernel
theorem dX6_mean_131 : decode cX6_mean 131 = .ok (.iconst 0, 1) := by decide +kernel
theorem dX6_mean_132 : decode cX6_mean 132 = .ok (.i2l, 1) := by decide +kernel
theorem dX6_mean_133 : decode cX6_mean 133 = .ok (.lmul, 1) := by decide +kernel
theorem dX6_mean_134 : decode cX6_mean 134 = .ok (.ladd, 1) := by decide +kernel
theorem dX6_mean_135 : decode cX6_mean 135 = .ok (.lstore 5, 2) := by decide +kernel
theorem dX6_mean_137 : decode cX6_mean 137 = .ok (.iinc 7 1, 3) := by decide +kernel
theorem dX6_mean_140 : decode cX6_mean 140 = .ok (.goto (-79), 3) := by decide +kernel
theorem dX6_mean_143 : decode cX6_mean 143 = .ok (.lload 5, 2) := by decide +kernel
theorem dX6_mean_145 : decode cX6_mean 145 = .ok (.lload_n 3, 1) := by decide +kernel
theorem dX6_mean_146 : decode cX6_mean 146 = .ok (.iload_n 2, 1) := by decide +kernel
theorem dX6_mean_147 : decode cX6_mean 147 = .ok (.invokestatic 207, 3) := by decide +kernel
theorem dX6_mean_150 : decode cX6_mean 150 = .ok (.lreturn, 1) := by decide +kernel
theorem dX6_mostOf_0 : decode cX6_mostOf 0 = .ok (.iload_n 0, 1) := by decide +kernel
theorem dX6_mostOf_1 : decode cX6_mostOf 1 = .ok (.iconst 4, 1) := by decide +kernel
theorem dX6_mostOf_2 : decode cX6_mostOf 2 = .ok (.if_icmp .ne 5, 3) := by decide +kernel
theorem dX6_mostOf_5 : decode cX6_mostOf 5 = .ok (.iconst 5, 1) := by decide +kernel
theorem dX6_mostOf_6 : decode cX6_mostOf 6 = .ok (.ireturn, 1) := by decide +kernel
theorem dX6_mostOf_7 : decode cX6_mostOf 7 = .ok (.iload_n 0, 1) := by decide +kernel
theorem dX6_mostOf_8 : decode cX6_mostOf 8 = .ok (.iconst 5, 1) := by decide +kernel
theorem dX6_mostOf_9 : decode cX6_mostOf 9 = .ok (.if_icmp .ne 8, 3) := by decide +kernel
theorem dX6_mostOf_12 : decode cX6_mostOf 12 = .ok (.bipush 100, 2) := by decide +kernel
theorem dX6_mostOf_14 : decode cX6_mostOf 14 = .ok (.goto 5, 3) := by decide +kernel
theorem dX6_mostOf_17 : decode cX6_mostOf 17 = .ok (.bipush 9, 2) := by decide +kernel
theorem dX6_mostOf_19 : decode cX6_mostOf 19 = .ok (.ireturn, 1) := by decide +kernel
theorem dX6_one_0 : decode cX6_one 0 = .ok (.aload_n 0, 1) := by decide +kernel
theorem dX6_one_1 : decode cX6_one 1 = .ok (.getfield 10, 3) := by decide +kernel
theorem dX6_one_4 : decode cX6_one 4 = .ok (.iload_n 1, 1) := by decide +kernel
theorem dX6_one_5 : decode cX6_one 5 = .ok (.invokevirtual 68, 3) := by decide +kernel
theorem dX6_one_8 : decode cX6_one 8 = .ok (.ifCond .eq 12, 3) := by decide +kernel
theorem dX6_one_11 : decode cX6_one 11 = .ok (.iload_n 2, 1) := by decide +kernel
theorem dX6_one_12 : decode cX6_one 12 = .ok (.ifCond .lt 8, 3) := by decide +kernel
theorem dX6_one_15 : decode cX6_one 15 = .ok (.iload_n 2, 1) := by decide +kernel
theorem dX6_one_16 : decode cX6_one 16 = .ok (.iconst 1, 1) := by decide +kernel
theorem dX6_one_17 : decode cX6_one 17 = .ok (.if_icmp .le 6, 3) := by decide +kernel
theorem dX6_one_20 : decode cX6_one 20 = .ok (.bipush (-2), 2) := by decide +kernel
theorem dX6_one_22 : decode cX6_one 22 = .ok (.ireturn, 1) := by decide +kernel
theorem dX6_one_23 : decode cX6_one 23 = .ok (.aload_n 0, 1) := by decide +kernel
theorem dX6_one_24 : decode cX6_one 24 = .ok (.invokevirtual 145, 3) := by decide +kernel
theorem dX6_one_27 : decode cX6_one 27 = .ok (.iconst (-1), 1) := by decide +kernel
theorem dX6_one_28 : decode cX6_one 28 = .ok (.istore_n 3, 1) := by decide +kernel
theorem dX6_one_29 : decode cX6_one 29 = .ok (.iconst 0, 1) := by decide +kernel
theorem dX6_one_30 : decode cX6_one 30 = .ok (.istore 4, 2) := by decide +kernel
theorem dX6_one_32 : decode cX6_one 32 = .ok (.iconst 0, 1) := by decide +kernel
theorem dX6_one_33 : decode cX6_one 33 = .ok (.istore 5, 2) := by decide +kernel
theorem dX6_one_35 : decode cX6_one 35 = .ok (.iload 5, 2) := by decide +kernel
theorem dX6_one_37 : decode cX6_one 37 = .ok (.bipush 6, 2) := by decide +kernel
theorem dX6_one_39 : decode cX6_one 39 = .ok (.if_icmp .ge 109, 3) := by decide +kernel
theorem dX6_one_42 : decode cX6_one 42 = .ok (.aload_n 0, 1) := by decide +kernel
theorem dX6_one_43 : decode cX6_one 43 = .ok (.getfield 41, 3) := by decide +kernel
theorem dX6_one_46 : decode cX6_one 46 = .ok (.getfield 181, 3) := by decide +kernel
theorem dX6_one_49 : decode cX6_one 49 = .ok (.getfield 113, 3) := by decide +kernel
theorem dX6_one_52 : decode cX6_one 52 = .ok (.iload_n 1, 1) := by decide +kernel
theorem dX6_one_53 : decode cX6_one 53 = .ok (.iload 5, 2) := by decide +kernel
theorem dX6_one_55 : decode cX6_one 55 = .ok (.iastore, 1) := by decide +kernel
theorem dX6_one_56 : decode cX6_one 56 = .ok (.aload_n 0, 1) := by decide +kernel
theorem dX6_one_57 : decode cX6_one 57 = .ok (.getfield 41, 3) := by decide +kernel
theorem dX6_one_60 : decode cX6_one 60 = .ok (.getfield 181, 3) := by decide +kernel
theorem dX6_one_63 : decode cX6_one 63 = .ok (.iload_n 1, 1) := by decide +kernel
theorem dX6_one_64 : decode cX6_one 64 = .ok (.aload_n 0, 1) := by decide +kernel
theorem dX6_one_65 : decode cX6_one 65 = .ok (.getfield 10, 3) := by decide +kernel
theorem dX6_one_68 : decode cX6_one 68 = .ok (.getfield 98, 3) := by decide +kernel
theorem dX6_one_71 : decode cX6_one 71 = .ok (.invokevirtual 119, 3) := by decide +kernel
theorem dX6_one_74 : decode cX6_one 74 = .ok (.ifCond .ne 6, 3) := by decide +kernel
theorem dX6_one_77 : decode cX6_one 77 = .ok (.goto 65, 3) := by decide +kernel
theorem dX6_one_80 : decode cX6_one 80 = .ok (.aload_n 0, 1) := by decide +kernel
theorem dX6_one_81 : decode cX6_one 81 = .ok (.getfield 41, 3) := by decide +kernel
theorem dX6_one_84 : decode cX6_one 84 = .ok (.invokevirtual 182, 3) := by decide +kernel
theorem dX6_one_87 : decode cX6_one 87 = .ok (.aload_n 0, 1) := by decide +kernel
theorem dX6_one_88 : decode cX6_one 88 = .ok (.getfield 41, 3) := by decide +kernel
theorem dX6_one_91 : decode cX6_one 91 = .ok (.invokevirtual 148, 3) := by decide +kernel
theorem dX6_one_94 : decode cX6_one 94 = .ok (.iload 5, 2) := by decide +kernel
theorem dX6_one_96 : decode cX6_one 96 = .ok (.aload_n 0, 1) := by decide +kernel
theorem dX6_one_97 : decode cX6_one 97 = .ok (.getfield 10, 3) := by decide +kernel
theorem dX6_one_100 : decode cX6_one 100 = .ok (.getfield 113, 3) := by decide +kernel
theorem dX6_one_103 : decode cX6_one 103 = .ok (.iload_n 1, 1) := by decide +kernel
theorem dX6_one_104 : decode cX6_one 104 = .ok (.iaload, 1) := by decide +kernel
theorem dX6_one_105 : decode cX6_one 105 = .ok (.if_icmp .ne 7, 3) := by decide +kernel
theorem dX6_one_108 : decode cX6_one 108 = .ok (.iconst 0, 1) := by decide +kernel
theorem dX6_one_109 : decode cX6_one 109 = .ok (.goto 11, 3) := by decide +kernel
theorem dX6_one_112 : decode cX6_one 112 = .ok (.aload_n 0, 1) := by decide +kernel
theorem dX6_one_113 : decode cX6_one 113 = .ok (.getfield 41, 3) := by decide +kernel
theorem dX6_one_116 : decode cX6_one 116 = .ok (.iload_n 1, 1) := by decide +kernel
theorem dX6_one_117 : decode cX6_one 117 = .ok (.invokevirtual 185, 3) := by decide +kernel
theorem dX6_one_120 : decode cX6_one 120 = .ok (.iadd, 1) := by decide +kernel
theorem dX6_one_121 : decode cX6_one 121 = .ok (.istore 6, 2) := by decide +kernel
theorem dX6_one_123 : decode cX6_one 123 = .ok (.iload_n 3, 1) := by decide +kernel
theorem dX6_one_124 : decode cX6_one 124 = .ok (.iconst (-1), 1) := by decide +kernel
theorem dX6_one_125 : decode cX6_one 125 = .ok (.if_icmp .eq 10, 3) := by decide +kernel
theorem dX6_one_128 : decode cX6_one 128 = .ok (.iload 6, 2) := by decide +kernel
theorem dX6_one_130 : decode cX6_one 130 = .ok (.iload 4, 2) := by decide +kernel
theorem dX6_one_132 : decode cX6_one 132 = .ok (.if_icmp .ge 10, 3) := by decide +kernel
theorem dX6_one_135 : decode cX6_one 135 = .ok (.iload 5, 2) := by decide +kernel
theorem dX6_one_137 : decode cX6_one 137 = .ok (.istore_n 3, 1) := by decide +kernel
theorem dX6_one_138 : decode cX6_one 138 = .ok (.iload 6, 2) := by decide +kernel
theorem dX6_one_140 : decode cX6_one 140 = .ok (.istore 4, 2) := by decide +kernel
theorem dX6_one_142 : decode cX6_one 142 = .ok (.iinc 5 1, 3) := by decide +kernel
theorem dX6_one_145 : decode cX6_one 145 = .ok (.goto (-110), 3) := by decide +kernel
theorem dX6_one_148 : decode cX6_one 148 = .ok (.iload_n 2, 1) := by decide +kernel
theorem dX6_one_149 : decode cX6_one 149 = .ok (.ifCond .ne 7, 3) := by decide +kernel
theorem dX6_one_152 : decode cX6_one 152 = .ok (.iload_n 3, 1) := by decide +kernel
theorem dX6_one_153 : decode cX6_one 153 = .ok (.goto 5, 3) := by decide +kernel
theorem dX6_one_156 : decode cX6_one 156 = .ok (.iload 4, 2) := by decide +kernel
theorem dX6_one_158 : decode cX6_one 158 = .ok (.ireturn, 1) := by decide +kernel
theorem dX6_put_0 : decode cX6_put 0 = .ok (.aload_n 1, 1) := by decide +kernel
theorem dX6_put_1 : decode cX6_put 1 = .ok (.iload_n 2, 1) := by decide +kernel
theorem dX6_put_2 : decode cX6_put 2 = .ok (.iaload, 1) := by decide +kernel
theorem dX6_put_3 : decode cX6_put 3 = .ok (.istore 4, 2) := by decide +kernel
theorem dX6_put_5 : decode cX6_put 5 = .ok (.aload_n 1, 1) := by decide +kernel
theorem dX6_put_6 : decode cX6_put 6 = .ok (.iload_n 2, 1) := by decide +kernel
theorem dX6_put_7 : decode cX6_put 7 = .ok (.iload_n 3, 1) := by decide +kernel
theorem dX6_put_8 : decode cX6_put 8 = .ok (.iastore, 1) := by decide +kernel
theorem dX6_put_9 : decode cX6_put 9 = .ok (.aload_n 0, 1) := by decide +kernel
theorem dX6_put_10 : decode cX6_put 10 = .ok (.getfield 10, 3) := by decide +kernel
theorem dX6_put_13 : decode cX6_put 13 = .ok (.iload_n 2, 1) := by decide +kernel
theorem dX6_put_14 : decode cX6_put 14 = .ok (.aload_n 0, 1) := by decide +kernel
theorem dX6_put_15 : decode cX6_put 15 = .ok (.getfield 10, 3) := by decide +kernel
theorem dX6_put_18 : decode cX6_put 18 = .ok (.getfield 98, 3) := by decide +kernel
theorem dX6_put_21 : decode cX6_put 21 = .ok (.invokevirtual 119, 3) := by decide +kernel
theorem dX6_put_24 : decode cX6_put 24 = .ok (.ifCond .ne 11, 3) := by decide +kernel
theorem dX6_put_27 : decode cX6_put 27 = .ok (.aload_n 1, 1) := by decide +kernel
theorem dX6_put_28 : decode cX6_put 28 = .ok (.iload_n 2, 1) := by decide +kernel
theorem dX6_put_29 : decode cX6_put 29 = .ok (.iload 4, 2) := by decide +kernel
theorem dX6_put_31 : decode cX6_put 31 = .ok (.iastore, 1) := by decide +kernel
theorem dX6_put_32 : decode cX6_put 32 = .ok (.bipush (-3), 2) := by decide +kernel
theorem dX6_put_34 : decode cX6_put 34 = .ok (.ireturn, 1) := by decide +kernel
theorem dX6_put_35 : decode cX6_put 35 = .ok (.iload 4, 2) := by decide +kernel
theorem dX6_put_37 : decode cX6_put 37 = .ok (.ireturn, 1) := by decide +kernel
theorem dX6_putDoors_0 : decode cX6_putDoors 0 = .ok (.iload_n 1, 1) := by decide +kernel
theorem dX6_putDoors_1 : decode cX6_putDoors 1 = .ok (.iconst 1, 1) := by decide +kernel
theorem dX6_putDoors_2 : decode cX6_putDoors 2 = .ok (.if_icmp .lt 8, 3) := by decide +kernel
theorem dX6_putDoors_5 : decode cX6_putDoors 5 = .ok (.iload_n 1, 1) := by decide +kernel
theorem dX6_putDoors_6 : decode cX6_putDoors 6 = .ok (.iconst 2, 1) := by decide +kernel
theorem dX6_putDoors_7 : decode cX6_putDoors 7 = .ok (.if_icmp .le 6, 3) := by decide +kernel
theorem dX6_putDoors_10 : decode cX6_putDoors 10 = .ok (.bipush (-2), 2) := by decide +kernel
theorem dX6_putDoors_12 : decode cX6_putDoors 12 = .ok (.ireturn, 1) := by decide +kernel
theorem dX6_putDoors_13 : decode cX6_putDoors 13 = .ok (.aload_n 0, 1) := by decide +kernel
theorem dX6_putDoors_14 : decode cX6_putDoors 14 = .ok (.getfield 10, 3) := by decide +kernel
theorem dX6_putDoors_17 : decode cX6_putDoors 17 = .ok (.getfield 122, 3) := by decide +kernel
theorem dX6_putDoors_20 : decode cX6_putDoors 20 = .ok (.istore_n 2, 1) := by decide +kernel
theorem dX6_putDoors_21 : decode cX6_putDoors 21 = .ok (.aload_n 0, 1) := by decide +kernel
theorem dX6_putDoors_22 : decode cX6_putDoors 22 = .ok (.getfield 10, 3) := by decide +kernel
theorem dX6_putDoors_25 : decode cX6_putDoors 25 = .ok (.iload_n 1, 1) := by decide +kernel
theorem dX6_putDoors_26 : decode cX6_putDoors 26 = .ok (.putfield 122, 3) := by decide +kernel
theorem dX6_putDoors_29 : decode cX6_putDoors 29 = .ok (.iload_n 2, 1) := by decide +kernel
theorem dX6_putDoors_30 : decode cX6_putDoors 30 = .ok (.ireturn, 1) := by decide +kernel
theorem dX6_refusalToRead_0 : decode cX6_refusalToRead 0 = .ok (.aload_n 0, 1) := by decide +kernel
theorem dX6_refusalToRead_1 : decode cX6_refusalToRead 1 = .ok (.invokevirtual 245, 3) := by decide +kernel
theorem dX6_refusalToRead_4 : decode cX6_refusalToRead 4 = .ok (.ifCond .eq 6, 3) := by decide +kernel
theorem dX6_refusalToRead_7 : decode cX6_refusalToRead 7 = .ok (.bipush (-11), 2) := by decide +kernel
theorem dX6_refusalToRead_9 : decode cX6_refusalToRead 9 = .ok (.ireturn, 1) := by decide +kernel
theorem dX6_refusalToRead_10 : decode cX6_refusalToRead 10 = .ok (.aload_n 0, 1) := by decide +kernel
theorem dX6_refusalToRead_11 : decode cX6_refusalToRead 11 = .ok (.getfield 248, 3) := by decide +kernel
theorem dX6_refusalToRead_14 : decode cX6_refusalToRead 14 = .ok (.bipush 10, 2) := by decide +kernel
theorem dX6_refusalToRead_16 : decode cX6_refusalToRead 16 = .ok (.if_icmp .le 8, 3) := by decide +kernel
theorem dX6_refusalToRead_19 : decode cX6_refusalToRead 19 = .ok (.bipush (-2), 2) := by decide +kernel
theorem dX6_refusalToRead_21 : decode cX6_refusalToRead 21 = .ok (.goto 4, 3) := by decide +kernel
theorem dX6_refusalToRead_24 : decode cX6_refusalToRead 24 = .ok (.iconst 0, 1) := by decide +kernel
theorem dX6_refusalToRead_25 : decode cX6_refusalToRead 25 = .ok (.ireturn, 1) := by decide +kernel
theorem dX6_ride_0 : decode cX6_ride 0 = .ok (.iload_n 1, 1) := by decide +kernel
theorem dX6_ride_1 : decode cX6_ride 1 = .ok (.ifCond .lt 8, 3) := by decide +kernel
theorem dX6_ride_4 : decode cX6_ride 4 = .ok (.iload_n 1, 1) := by decide +kernel
theorem dX6_ride_5 : decode cX6_ride 5 = .ok (.iconst 2, 1) := by decide +kernel
theorem dX6_ride_6 : decode cX6_ride 6 = .ok (.if_icmp .le 6, 3) := by decide +kernel
theorem dX6_ride_9 : decode cX6_ride 9 = .ok (.bipush (-2), 2) := by decide +kernel
theorem dX6_ride_11 : decode cX6_ride 11 = .ok (.ireturn, 1) := by decide +kernel
theorem dX6_ride_12 : decode cX6_ride 12 = .ok (.aload_n 0, 1) := by decide +kernel
theorem dX6_ride_13 : decode cX6_ride 13 = .ok (.invokevirtual 145, 3) := by decide +kernel
theorem dX6_ride_16 : decode cX6_ride 16 = .ok (.iload_n 1, 1) := by decide +kernel
theorem dX6_ride_17 : decode cX6_ride 17 = .ok (.ifCond .ne 11, 3) := by decide +kernel
theorem dX6_ride_20 : decode cX6_ride 20 = .ok (.aload_n 0, 1) := by decide +kernel
theorem dX6_ride_21 : decode cX6_ride 21 = .ok (.getfield 41, 3) := by decide +kernel
theorem dX6_ride_24 : decode cX6_ride 24 = .ok (.invokevirtual 148, 3) := by decide +kernel
theorem dX6_ride_27 : decode cX6_ride 27 = .ok (.ireturn, 1) := by decide +kernel
theorem dX6_ride_28 : decode cX6_ride 28 = .ok (.iload_n 1, 1) := by decide +kernel
theorem dX6_ride_29 : decode cX6_ride 29 = .ok (.iconst 1, 1) := by decide +kernel
theorem dX6_ride_30 : decode cX6_ride 30 = .ok (.if_icmp .ne 13, 3) := by decide +kernel
theorem dX6_ride_33 : decode cX6_ride 33 = .ok (.aload_n 0, 1) := by decide +kernel
theorem dX6_ride_34 : decode cX6_ride 34 = .ok (.getfield 41, 3) := by decide +kernel
theorem dX6_ride_37 : decode cX6_ride 37 = .ok (.invokevirtual 152, 3) := by decide +kernel
theorem dX6_ride_40 : decode cX6_ride 40 = .ok (.goto 10, 3) := by decide +kernel
theorem dX6_ride_43 : decode cX6_ride 43 = .ok (.aload_n 0, 1) := by decide +kernel
theorem dX6_ride_44 : decode cX6_ride 44 = .ok (.getfield 41, 3) := by decide +kernel
theorem dX6_ride_47 : decode cX6_ride 47 = .ok (.invokevirtual 155, 3) := by decide +kernel
theorem dX6_ride_50 : decode cX6_ride 50 = .ok (.ireturn, 1) := by decide +kernel
theorem dX6_rider_0 : decode cX6_rider 0 = .ok (.aload_n 0, 1) := by decide +kernel
theorem dX6_rider_1 : decode cX6_rider 1 = .ok (.iload_n 1, 1) := by decide +kernel
theorem dX6_rider_2 : decode cX6_rider 2 = .ok (.iload_n 2, 1) := by decide +kernel
theorem dX6_rider_3 : decode cX6_rider 3 = .ok (.iload_n 3, 1) := by decide +kernel
theorem dX6_rider_4 : decode cX6_rider 4 = .ok (.invokevirtual 60, 3) := by decide +kernel
theorem dX6_rider_7 : decode cX6_rider 7 = .ok (.ireturn, 1) := by decide +kernel
theorem dX6_riders_0 : decode cX6_riders 0 = .ok (.iload_n 1, 1) := by decide +kernel
theorem dX6_riders_1 : decode cX6_riders 1 = .ok (.invokestatic 214, 3) := by decide +kernel
theorem dX6_riders_4 : decode cX6_riders 4 = .ok (.ifCond .eq 23, 3) := by decide +kernel
theorem dX6_riders_7 : decode cX6_riders 7 = .ok (.iload_n 2, 1) := by decide +kernel
theorem dX6_riders_8 : decode cX6_riders 8 = .ok (.ifCond .lt 19, 3) := by decide +kernel
theorem dX6_riders_11 : decode cX6_riders 11 = .ok (.iload_n 2, 1) := by decide +kernel
theorem dX6_riders_12 : decode cX6_riders 12 = .ok (.iconst 3, 1) := by decide +kernel
theorem dX6_riders_13 : decode cX6_riders 13 = .ok (.if_icmp .ge 14, 3) := by decide +kernel
theorem dX6_riders_16 : decode cX6_riders 16 = .ok (.iload 4, 2) := by decide +kernel
theorem dX6_riders_18 : decode cX6_riders 18 = .ok (.ifCond .lt 9, 3) := by decide +kernel
theorem dX6_riders_21 : decode cX6_riders 21 = .ok (.iload 4, 2) := by decide +kernel
theorem dX6_riders_23 : decode cX6_riders 23 = .ok (.iconst 5, 1) := by decide +kernel
theorem dX6_riders_24 : decode cX6_riders 24 = .ok (.if_icmp .le 6, 3) := by decide +kernel
theorem dX6_riders_27 : decode cX6_riders 27 = .ok (.bipush (-2), 2) := by decide +kernel
theorem dX6_riders_29 : decode cX6_riders 29 = .ok (.ireturn, 1) := by decide +kernel
theorem dX6_riders_30 : decode cX6_riders 30 = .ok (.aload_n 0, 1) := by decide +kernel
theorem dX6_riders_31 : decode cX6_riders 31 = .ok (.getfield 34, 3) := by decide +kernel
theorem dX6_riders_34 : decode cX6_riders 34 = .ok (.iload_n 1, 1) := by decide +kernel
theorem dX6_riders_35 : decode cX6_riders 35 = .ok (.aaload, 1) := by decide +kernel
theorem dX6_riders_36 : decode cX6_riders 36 = .ok (.astore 5, 2) := by decide +kernel
theorem dX6_riders_38 : decode cX6_riders 38 = .ok (.aload 5, 2) := by decide +kernel
theorem dX6_riders_40 : decode cX6_riders 40 = .ok (.invokevirtual 245, 3) := by decide +kernel
theorem dX6_riders_43 : decode cX6_riders 43 = .ok (.ifCond .eq 6, 3) := by decide +kernel
theorem dX6_riders_46 : decode cX6_riders 46 = .ok (.bipush (-11), 2) := by decide +kernel
theorem dX6_riders_48 : decode cX6_riders 48 = .ok (.ireturn, 1) := by decide +kernel
theorem dX6_riders_49 : decode cX6_riders 49 = .ok (.aload 5, 2) := by decide +kernel
theorem dX6_riders_51 : decode cX6_riders 51 = .ok (.getfield 253, 3) := by decide +kernel
theorem dX6_riders_54 : decode cX6_riders 54 = .ok (.iload_n 2, 1) := by decide +kernel
theorem dX6_riders_55 : decode cX6_riders 55 = .ok (.if_icmp .eq 6, 3) := by decide +kernel
theorem dX6_riders_58 : decode cX6_riders 58 = .ok (.bipush (-13), 2) := by decide +kernel
theorem dX6_riders_60 : decode cX6_riders 60 = .ok (.ireturn, 1) := by decide +kernel
theorem dX6_riders_61 : decode cX6_riders 61 = .ok (.iconst 0, 1) := by decide +kernel
theorem dX6_riders_62 : decode cX6_riders 62 = .ok (.istore 6, 2) := by decide +kernel
theorem dX6_riders_64 : decode cX6_riders 64 = .ok (.iconst 0, 1) := by decide +kernel
theorem dX6_riders_65 : decode cX6_riders 65 = .ok (.istore 7, 2) := by decide +kernel
theorem dX6_riders_67 : decode cX6_riders 67 = .ok (.iload 7, 2) := by decide +kernel
theorem dX6_riders_69 : decode cX6_riders 69 = .ok (.iload 4, 2) := by decide +kernel
theorem dX6_riders_71 : decode cX6_riders 71 = .ok (.if_icmp .ge 69, 3) := by decide +kernel
theorem dX6_riders_74 : decode cX6_riders 74 = .ok (.iload_n 3, 1) := by decide +kernel
theorem dX6_riders_75 : decode cX6_riders 75 = .ok (.iconst 3, 1) := by decide +kernel
theorem dX6_riders_76 : decode cX6_riders 76 = .ok (.iload 7, 2) := by decide +kernel
theorem dX6_riders_78 : decode cX6_riders 78 = .ok (.imul, 1) := by decide +kernel
theorem dX6_riders_79 : decode cX6_riders 79 = .ok (.iadd, 1) := by decide +kernel
theorem dX6_riders_80 : decode cX6_riders 80 = .ok (.istore 8, 2) := by decide +kernel
theorem dX6_riders_82 : decode cX6_riders 82 = .ok (.aload 5, 2) := by decide +kernel
theorem dX6_riders_84 : decode cX6_riders 84 = .ok (.iload 8, 2) := by decide +kernel
theorem dX6_riders_86 : decode cX6_riders 86 = .ok (.iconst 3, 1) := by decide +kernel
theorem dX6_riders_87 : decode cX6_riders 87 = .ok (.invokevirtual 256, 3) := by decide +kernel
theorem dX6_riders_90 : decode cX6_riders 90 = .ok (.ifCond .ne 6, 3) := by decide +kernel
theorem dX6_riders_93 : decode cX6_riders 93 = .ok (.bipush (-12), 2) := by decide +kernel
theorem dX6_riders_95 : decode cX6_riders 95 = .ok (.ireturn, 1) := by decide +kernel
theorem dX6_riders_96 : decode cX6_riders 96 = .ok (.aload_n 0, 1) := by decide +kernel
theorem dX6_riders_97 : decode cX6_riders 97 = .ok (.aload 5, 2) := by decide +kernel
theorem dX6_riders_99 : decode cX6_riders 99 = .ok (.getfield 232, 3) := by decide +kernel
theorem dX6_riders_102 : decode cX6_riders 102 = .ok (.iload 8, 2) := by decide +kernel
theorem dX6_riders_104 : decode cX6_riders 104 = .ok (.iaload, 1) := by decide +kernel
theorem dX6_riders_105 : decode cX6_riders 105 = .ok (.aload 5, 2) := by decide +kernel
theorem dX6_riders_107 : decode cX6_riders 107 = .ok (.getfield 232, 3) := by decide +kernel
theorem dX6_riders_110 : decode cX6_riders 110 = .ok (.iload 8, 2) := by decide +kernel
theorem dX6_riders_112 : decode cX6_riders 112 = .ok (.iconst 1, 1) := by decide +kernel
theorem dX6_riders_113 : decode cX6_riders 113 = .ok (.iadd, 1) := by decide +kernel
theorem dX6_riders_114 : decode cX6_riders 114 = .ok (.iaload, 1) := by decide +kernel
theorem dX6_riders_115 : decode cX6_riders 115 = .ok (.aload 5, 2) := by decide +kernel
theorem dX6_riders_117 : decode cX6_riders 117 = .ok (.getfield 232, 3) := by decide +kernel
theorem dX6_riders_120 : decode cX6_riders 120 = .ok (.iload 8, 2) := by decide +kernel
theorem dX6_riders_122 : decode cX6_riders 122 = .ok (.iconst 2, 1) := by decide +kernel
theorem dX6_riders_123 : decode cX6_riders 123 = .ok (.iadd, 1) := by decide +kernel
theorem dX6_riders_124 : decode cX6_riders 124 = .ok (.iaload, 1) := by decide +kernel
theorem dX6_riders_125 : decode cX6_riders 125 = .ok (.invokevirtual 60, 3) := by decide +kernel
theorem dX6_riders_128 : decode cX6_riders 128 = .ok (.ifCond .lt 6, 3) := by decide +kernel
theorem dX6_riders_131 : decode cX6_riders 131 = .ok (.iinc 6 1, 3) := by decide +kernel
theorem dX6_riders_134 : decode cX6_riders 134 = .ok (.iinc 7 1, 3) := by decide +kernel
theorem dX6_riders_137 : decode cX6_riders 137 = .ok (.goto (-70), 3) := by decide +kernel
theorem dX6_riders_140 : decode cX6_riders 140 = .ok (.iload 6, 2) := by decide +kernel
theorem dX6_riders_142 : decode cX6_riders 142 = .ok (.ireturn, 1) := by decide +kernel
theorem dX6_second_0 : decode cX6_second 0 = .ok (.iload_n 1, 1) := by decide +kernel
theorem dX6_second_1 : decode cX6_second 1 = .ok (.ifCond .lt 8, 3) := by decide +kernel
theorem dX6_second_4 : decode cX6_second 4 = .ok (.iload_n 1, 1) := by decide +kernel
theorem dX6_second_5 : decode cX6_second 5 = .ok (.iconst 1, 1) := by decide +kernel
theorem dX6_second_6 : decode cX6_second 6 = .ok (.if_icmp .le 6, 3) := by decide +kernel
theorem dX6_second_9 : decode cX6_second 9 = .ok (.ldc 191, 2) := by decide +kernel
theorem dX6_second_11 : decode cX6_second 11 = .ok (.ireturn, 1) := by decide +kernel
theorem dX6_second_12 : decode cX6_second 12 = .ok (.aload_n 0, 1) := by decide +kernel
theorem dX6_second_13 : decode cX6_second 13 = .ok (.invokevirtual 145, 3) := by decide +kernel
theorem dX6_second_16 : decode cX6_second 16 = .ok (.iload_n 1, 1) := by decide +kernel
theorem dX6_second_17 : decode cX6_second 17 = .ok (.iconst 1, 1) := by decide +kernel
theorem dX6_second_18 : decode cX6_second 18 = .ok (.if_icmp .ne 8, 3) := by decide +kernel
theorem dX6_second_21 : decode cX6_second 21 = .ok (.aload_n 0, 1) := by decide +kernel
theorem dX6_second_22 : decode cX6_second 22 = .ok (.invokevirtual 192, 3) := by decide +kernel
theorem dX6_second_25 : decode cX6_second 25 = .ok (.ireturn, 1) := by decide +kernel
theorem dX6_second_26 : decode cX6_second 26 = .ok (.aload_n 0, 1) := by decide +kernel
theorem dX6_second_27 : decode cX6_second 27 = .ok (.getfield 41, 3) := by decide +kernel
theorem dX6_second_30 : decode cX6_second 30 = .ok (.getfield 181, 3) := by decide +kernel
theorem dX6_second_33 : decode cX6_second 33 = .ok (.iconst 1, 1) := by decide +kernel
theorem dX6_second_34 : decode cX6_second 34 = .ok (.putfield 122, 3) := by decide +kernel
theorem dX6_second_37 : decode cX6_second 37 = .ok (.aload_n 0, 1) := by decide +kernel
theorem dX6_second_38 : decode cX6_second 38 = .ok (.getfield 41, 3) := by decide +kernel
theorem dX6_second_41 : decode cX6_second 41 = .ok (.invokevirtual 148, 3) := by decide +kernel
theorem dX6_second_44 : decode cX6_second 44 = .ok (.istore_n 2, 1) := by decide +kernel
theorem dX6_second_45 : decode cX6_second 45 = .ok (.aload_n 0, 1) := by decide +kernel
theorem dX6_second_46 : decode cX6_second 46 = .ok (.getfield 41, 3) := by decide +kernel
theorem dX6_second_49 : decode cX6_second 49 = .ok (.getfield 181, 3) := by decide +kernel
theorem dX6_second_52 : decode cX6_second 52 = .ok (.iconst 2, 1) := by decide +kernel
theorem dX6_second_53 : decode cX6_second 53 = .ok (.putfield 122, 3) := by decide +kernel
theorem dX6_second_56 : decode cX6_second 56 = .ok (.iload_n 2, 1) := by decide +kernel
theorem dX6_second_57 : decode cX6_second 57 = .ok (.aload_n 0, 1) := by decide +kernel
theorem dX6_second_58 : decode cX6_second 58 = .ok (.getfield 41, 3) := by decide +kernel
theorem dX6_second_61 : decode cX6_second 61 = .ok (.invokevirtual 148, 3) := by decide +kernel
theorem dX6_second_64 : decode cX6_second 64 = .ok (.isub, 1) := by decide +kernel
theorem dX6_second_65 : decode cX6_second 65 = .ok (.ireturn, 1) := by decide +kernel
theorem dX6_seen_0 : decode cX6_seen 0 = .ok (.iload_n 1, 1) := by decide +kernel
theorem dX6_seen_1 : decode cX6_seen 1 = .ok (.invokestatic 214, 3) := by decide +kernel
theorem dX6_seen_4 : decode cX6_seen 4 = .ok (.ifCond .eq 23, 3) := by decide +kernel
theorem dX6_seen_7 : decode cX6_seen 7 = .ok (.aload_n 0, 1) := by decide +kernel
theorem dX6_seen_8 : decode cX6_seen 8 = .ok (.getfield 10, 3) := by decide +kernel
theorem dX6_seen_11 : decode cX6_seen 11 = .ok (.iload_n 2, 1) := by decide +kernel
theorem dX6_seen_12 : decode cX6_seen 12 = .ok (.invokevirtual 68, 3) := by decide +kernel
theorem dX6_seen_15 : decode cX6_seen 15 = .ok (.ifCond .eq 12, 3) := by decide +kernel
theorem dX6_seen_18 : decode cX6_seen 18 = .ok (.iload_n 3, 1) := by decide +kernel
theorem dX6_seen_19 : decode cX6_seen 19 = .ok (.ifCond .lt 8, 3) := by decide +kernel
theorem dX6_seen_22 : decode cX6_seen 22 = .ok (.iload_n 3, 1) := by decide +kernel
theorem dX6_seen_23 : decode cX6_seen 23 = .ok (.iconst 2, 1) := by decide +kernel
theorem dX6_seen_24 : decode cX6_seen 24 = .ok (.if_icmp .le 6, 3) := by decide +kernel
theorem dX6_seen_27 : decode cX6_seen 27 = .ok (.bipush (-2), 2) := by decide +kernel
theorem dX6_seen_29 : decode cX6_seen 29 = .ok (.ireturn, 1) := by decide +kernel
theorem dX6_seen_30 : decode cX6_seen 30 = .ok (.aload_n 0, 1) := by decide +kernel
theorem dX6_seen_31 : decode cX6_seen 31 = .ok (.getfield 34, 3) := by decide +kernel
theorem dX6_seen_34 : decode cX6_seen 34 = .ok (.iload_n 1, 1) := by decide +kernel
theorem dX6_seen_35 : decode cX6_seen 35 = .ok (.aaload, 1) := by decide +kernel
theorem dX6_seen_36 : decode cX6_seen 36 = .ok (.invokestatic 217, 3) := by decide +kernel
theorem dX6_seen_39 : decode cX6_seen 39 = .ok (.istore 4, 2) := by decide +kernel
theorem dX6_seen_41 : decode cX6_seen 41 = .ok (.iload 4, 2) := by decide +kernel
theorem dX6_seen_43 : decode cX6_seen 43 = .ok (.ifCond .eq 6, 3) := by decide +kernel
theorem dX6_seen_46 : decode cX6_seen 46 = .ok (.iload 4, 2) := by decide +kernel
theorem dX6_seen_48 : decode cX6_seen 48 = .ok (.ireturn, 1) := by decide +kernel
theorem dX6_seen_49 : decode cX6_seen 49 = .ok (.aload_n 0, 1) := by decide +kernel
theorem dX6_seen_50 : decode cX6_seen 50 = .ok (.invokevirtual 145, 3) := by decide +kernel
theorem dX6_seen_53 : decode cX6_seen 53 = .ok (.iload_n 3, 1) := by decide +kernel
theorem dX6_seen_54 : decode cX6_seen 54 = .ok (.ifCond .ne 38, 3) := by decide +kernel
theorem dX6_seen_57 : decode cX6_seen 57 = .ok (.aload_n 0, 1) := by decide +kernel
theorem dX6_seen_58 : decode cX6_seen 58 = .ok (.aload_n 0, 1) := by decide +kernel
theorem dX6_seen_59 : decode cX6_seen 59 = .ok (.getfield 34, 3) := by decide +kernel
theorem dX6_seen_62 : decode cX6_seen 62 = .ok (.iload_n 1, 1) := by decide +kernel
theorem dX6_seen_63 : decode cX6_seen 63 = .ok (.aaload, 1) := by decide +kernel
theorem dX6_seen_64 : decode cX6_seen 64 = .ok (.aload_n 0, 1) := by decide +kernel
theorem dX6_seen_65 : decode cX6_seen 65 = .ok (.getfield 41, 3) := by decide +kernel
theorem dX6_seen_68 : decode cX6_seen 68 = .ok (.getfield 181, 3) := by decide +kernel
theorem dX6_seen_71 : decode cX6_seen 71 = .ok (.getfield 110, 3) := by decide +kernel
theorem dX6_seen_74 : decode cX6_seen 74 = .ok (.iload_n 2, 1) := by decide +kernel
theorem dX6_seen_75 : decode cX6_seen 75 = .ok (.aload_n 0, 1) := by decide +kernel
theorem dX6_seen_76 : decode cX6_seen 76 = .ok (.getfield 10, 3) := by decide +kernel
theorem dX6_seen_79 : decode cX6_seen 79 = .ok (.getfield 107, 3) := by decide +kernel
theorem dX6_seen_82 : decode cX6_seen 82 = .ok (.iload_n 2, 1) := by decide +kernel
theorem dX6_seen_83 : decode cX6_seen 83 = .ok (.iaload, 1) := by decide +kernel
theorem dX6_seen_84 : decode cX6_seen 84 = .ok (.iconst 1, 1) := by decide +kernel
theorem dX6_seen_85 : decode cX6_seen 85 = .ok (.iadd, 1) := by decide +kernel
theorem dX6_seen_86 : decode cX6_seen 86 = .ok (.bipush 9, 2) := by decide +kernel
theorem dX6_seen_88 : decode cX6_seen 88 = .ok (.invokevirtual 224, 3) := by decide +kernel
theorem dX6_seen_91 : decode cX6_seen 91 = .ok (.ireturn, 1) := by decide +kernel
theorem dX6_seen_92 : decode cX6_seen 92 = .ok (.iload_n 3, 1) := by decide +kernel
theorem dX6_seen_93 : decode cX6_seen 93 = .ok (.iconst 1, 1) := by decide +kernel
theorem dX6_seen_94 : decode cX6_seen 94 = .ok (.if_icmp .ne 27, 3) := by decide +kernel
theorem dX6_seen_97 : decode cX6_seen 97 = .ok (.aload_n 0, 1) := by decide +kernel
theorem dX6_seen_98 : decode cX6_seen 98 = .ok (.aload_n 0, 1) := by decide +kernel
theorem dX6_seen_99 : decode cX6_seen 99 = .ok (.getfield 34, 3) := by decide +kernel
theorem dX6_seen_102 : decode cX6_seen 102 = .ok (.iload_n 1, 1) := by decide +kernel
theorem dX6_seen_103 : decode cX6_seen 103 = .ok (.aaload, 1) := by decide +kernel
theorem dX6_seen_104 : decode cX6_seen 104 = .ok (.aload_n 0, 1) := by decide +kernel
theorem dX6_seen_105 : decode cX6_seen 105 = .ok (.getfield 41, 3) := by decide +kernel
theorem dX6_seen_108 : decode cX6_seen 108 = .ok (.getfield 181, 3) := by decide +kernel
theorem dX6_seen_111 : decode cX6_seen 111 = .ok (.getfield 113, 3) := by decide +kernel
theorem dX6_seen_114 : decode cX6_seen 114 = .ok (.iload_n 2, 1) := by decide +kernel
theorem dX6_seen_115 : decode cX6_seen 115 = .ok (.iconst 0, 1) := by decide +kernel
theorem dX6_seen_116 : decode cX6_seen 116 = .ok (.iconst 5, 1) := by decide +kernel
theorem dX6_seen_117 : decode cX6_seen 117 = .ok (.invokevirtual 224, 3) := by decide +kernel
theorem dX6_seen_120 : decode cX6_seen 120 = .ok (.ireturn, 1) := by decide +kernel
theorem dX6_seen_121 : decode cX6_seen 121 = .ok (.aload_n 0, 1) := by decide +kernel
theorem dX6_seen_122 : decode cX6_seen 122 = .ok (.aload_n 0, 1) := by decide +kernel
theorem dX6_seen_123 : decode cX6_seen 123 = .ok (.getfield 34, 3) := by decide +kernel
theorem dX6_seen_126 : decode cX6_seen 126 = .ok (.iload_n 1, 1) := by decide +kernel
theorem dX6_seen_127 : decode cX6_seen 127 = .ok (.aaload, 1) := by decide +kernel
theorem dX6_seen_128 : decode cX6_seen 128 = .ok (.aload_n 0, 1) := by decide +kernel
theorem dX6_seen_129 : decode cX6_seen 129 = .ok (.getfield 41, 3) := by decide +kernel
theorem dX6_seen_132 : decode cX6_seen 132 = .ok (.getfield 181, 3) := by decide +kernel
theorem dX6_seen_135 : decode cX6_seen 135 = .ok (.getfield 101, 3) := by decide +kernel
theorem dX6_seen_138 : decode cX6_seen 138 = .ok (.iload_n 2, 1) := by decide +kernel
theorem dX6_seen_139 : decode cX6_seen 139 = .ok (.iconst 0, 1) := by decide +kernel
theorem dX6_seen_140 : decode cX6_seen 140 = .ok (.iconst 5, 1) := by decide +kernel
theorem dX6_seen_141 : decode cX6_seen 141 = .ok (.invokevirtual 224, 3) := by decide +kernel
theorem dX6_seen_144 : decode cX6_seen 144 = .ok (.ireturn, 1) := by decide +kernel
theorem dX6_set_0 : decode cX6_set 0 = .ok (.iload_n 1, 1) := by decide +kernel
theorem dX6_set_1 : decode cX6_set 1 = .ok (.ifCond .ne 9, 3) := by decide +kernel
theorem dX6_set_4 : decode cX6_set 4 = .ok (.aload_n 0, 1) := by decide +kernel
theorem dX6_set_5 : decode cX6_set 5 = .ok (.iload_n 3, 1) := by decide +kernel
theorem dX6_set_6 : decode cX6_set 6 = .ok (.invokevirtual 64, 3) := by decide +kernel
theorem dX6_set_9 : decode cX6_set 9 = .ok (.ireturn, 1) := by decide +kernel
theorem dX6_set_10 : decode cX6_set 10 = .ok (.iload_n 1, 1) := by decide +kernel
theorem dX6_set_11 : decode cX6_set 11 = .ok (.iconst 1, 1) := by decide +kernel
theorem dX6_set_12 : decode cX6_set 12 = .ok (.if_icmp .lt 19, 3) := by decide +kernel
theorem dX6_set_15 : decode cX6_set 15 = .ok (.iload_n 1, 1) := by decide +kernel
theorem dX6_set_16 : decode cX6_set 16 = .ok (.iconst 5, 1) := by decide +kernel
theorem dX6_set_17 : decode cX6_set 17 = .ok (.if_icmp .gt 14, 3) := by decide +kernel
theorem dX6_set_20 : decode cX6_set 20 = .ok (.aload_n 0, 1) := by decide +kernel
theorem dX6_set_21 : decode cX6_set 21 = .ok (.getfield 10, 3) := by decide +kernel
theorem dX6_set_24 : decode cX6_set 24 = .ok (.iload_n 2, 1) := by decide +kernel
theorem dX6_set_25 : decode cX6_set 25 = .ok (.invokevirtual 68, 3) := by decide +kernel
theorem dX6_set_28 : decode cX6_set 28 = .ok (.ifCond .ne 6, 3) := by decide +kernel
theorem dX6_set_31 : decode cX6_set 31 = .ok (.bipush (-2), 2) := by decide +kernel
theorem dX6_set_33 : decode cX6_set 33 = .ok (.ireturn, 1) := by decide +kernel
theorem dX6_set_34 : decode cX6_set 34 = .ok (.iload_n 3, 1) := by decide +kernel
theorem dX6_set_35 : decode cX6_set 35 = .ok (.aload_n 0, 1) := by decide +kernel
theorem dX6_set_36 : decode cX6_set 36 = .ok (.iload_n 1, 1) := by decide +kernel
theorem dX6_set_37 : decode cX6_set 37 = .ok (.iload_n 2, 1) := by decide +kernel
theorem dX6_set_38 : decode cX6_set 38 = .ok (.invokevirtual 72, 3) := by decide +kernel
theorem dX6_set_41 : decode cX6_set 41 = .ok (.if_icmp .lt 11, 3) := by decide +kernel
theorem dX6_set_44 : decode cX6_set 44 = .ok (.iload_n 3, 1) := by decide +kernel
theorem dX6_set_45 : decode cX6_set 45 = .ok (.iload_n 1, 1) := by decide +kernel
theorem dX6_set_46 : decode cX6_set 46 = .ok (.invokestatic 76, 3) := by decide +kernel
theorem dX6_set_49 : decode cX6_set 49 = .ok (.if_icmp .le 6, 3) := by decide +kernel
theorem dX6_set_52 : decode cX6_set 52 = .ok (.bipush (-2), 2) := by decide +kernel
theorem dX6_set_54 : decode cX6_set 54 = .ok (.ireturn, 1) := by decide +kernel
theorem dX6_set_55 : decode cX6_set 55 = .ok (.aload_n 0, 1) := by decide +kernel
theorem dX6_set_56 : decode cX6_set 56 = .ok (.aload_n 0, 1) := by decide +kernel
theorem dX6_set_57 : decode cX6_set 57 = .ok (.getfield 10, 3) := by decide +kernel
theorem dX6_set_60 : decode cX6_set 60 = .ok (.iload_n 1, 1) := by decide +kernel
theorem dX6_set_61 : decode cX6_set 61 = .ok (.invokevirtual 79, 3) := by decide +kernel
theorem dX6_set_64 : decode cX6_set 64 = .ok (.iload_n 2, 1) := by decide +kernel
theorem dX6_set_65 : decode cX6_set 65 = .ok (.iload_n 3, 1) := by decide +kernel
theorem dX6_set_66 : decode cX6_set 66 = .ok (.invokevirtual 83, 3) := by decide +kernel
theorem dX6_set_69 : decode cX6_set 69 = .ok (.ireturn, 1) := by decide +kernel
theorem dX6_setOut_0 : decode cX6_setOut 0 = .ok (.aload_n 0, 1) := by decide +kernel
theorem dX6_setOut_1 : decode cX6_setOut 1 = .ok (.getfield 10, 3) := by decide +kernel
theorem dX6_setOut_4 : decode cX6_setOut 4 = .ok (.getfield 142, 3) := by decide +kernel
theorem dX6_setOut_7 : decode cX6_setOut 7 = .ok (.ifCond .lt 21, 3) := by decide +kernel
theorem dX6_setOut_10 : decode cX6_setOut 10 = .ok (.aload_n 0, 1) := by decide +kernel
theorem dX6_setOut_11 : decode cX6_setOut 11 = .ok (.getfield 10, 3) := by decide +kernel
theorem dX6_setOut_14 : decode cX6_setOut 14 = .ok (.getfield 142, 3) := by decide +kernel
theorem dX6_setOut_17 : decode cX6_setOut 17 = .ok (.aload_n 0, 1) := by decide +kernel
theorem dX6_setOut_18 : decode cX6_setOut 18 = .ok (.getfield 55, 3) := by decide +kernel
theorem dX6_setOut_21 : decode cX6_setOut 21 = .ok (.if_icmp .ge 7, 3) := by decide +kernel
theorem dX6_setOut_24 : decode cX6_setOut 24 = .ok (.iconst 1, 1) := by decide +kernel
theorem dX6_setOut_25 : decode cX6_setOut 25 = .ok (.goto 4, 3) := by decide +kernel
theorem dX6_setOut_28 : decode cX6_setOut 28 = .ok (.iconst 0, 1) := by decide +kernel
theorem dX6_setOut_29 : decode cX6_setOut 29 = .ok (.istore_n 1, 1) := by decide +kernel
theorem dX6_setOut_30 : decode cX6_setOut 30 = .ok (.aload_n 0, 1) := by decide +kernel
theorem dX6_setOut_31 : decode cX6_setOut 31 = .ok (.getfield 41, 3) := by decide +kernel
theorem dX6_setOut_34 : decode cX6_setOut 34 = .ok (.aload_n 0, 1) := by decide +kernel
theorem dX6_setOut_35 : decode cX6_setOut 35 = .ok (.getfield 10, 3) := by decide +kernel
theorem dX6_setOut_38 : decode cX6_setOut 38 = .ok (.iload_n 1, 1) := by decide +kernel
theorem dX6_setOut_39 : decode cX6_setOut 39 = .ok (.ifCond .eq 18, 3) := by decide +kernel
theorem dX6_setOut_42 : decode cX6_setOut 42 = .ok (.aload_n 0, 1) := by decide +kernel
theorem dX6_setOut_43 : decode cX6_setOut 43 = .ok (.getfield 28, 3) := by decide +kernel
theorem dX6_setOut_46 : decode cX6_setOut 46 = .ok (.aload_n 0, 1) := by decide +kernel
theorem dX6_setOut_47 : decode cX6_setOut 47 = .ok (.getfield 10, 3) := by decide +kernel
theorem dX6_setOut_50 : decode cX6_setOut 50 = .ok (.getfield 142, 3) := by decide +kernel
theorem dX6_setOut_53 : decode cX6_setOut 53 = .ok (.aaload, 1) := by decide +kernel
theorem dX6_setOut_54 : decode cX6_setOut 54 = .ok (.goto 4, 3) := by decide +kernel
theorem dX6_setOut_57 : decode cX6_setOut 57 = .ok (.aconst_null, 1) := by decide +kernel
theorem dX6_setOut_58 : decode cX6_setOut 58 = .ok (.invokevirtual 167, 3) := by decide +kernel
theorem dX6_setOut_61 : decode cX6_setOut 61 = .ok (.return_, 1) := by decide +kernel
theorem dX6_sheet_0 : decode cX6_sheet 0 = .ok (.iload_n 1, 1) := by decide +kernel
theorem dX6_sheet_1 : decode cX6_sheet 1 = .ok (.invokestatic 214, 3) := by decide +kernel
theorem dX6_sheet_4 : decode cX6_sheet 4 = .ok (.ifCond .eq 13, 3) := by decide +kernel
theorem dX6_sheet_7 : decode cX6_sheet 7 = .ok (.iload_n 2, 1) := by decide +kernel
theorem dX6_sheet_8 : decode cX6_sheet 8 = .ok (.iconst (-1), 1) := by decide +kernel
theorem dX6_sheet_9 : decode cX6_sheet 9 = .ok (.if_icmp .lt 8, 3) := by decide +kernel
theorem dX6_sheet_12 : decode cX6_sheet 12 = .ok (.iload_n 2, 1) := by decide +kernel
theorem dX6_sheet_13 : decode cX6_sheet 13 = .ok (.iconst 3, 1) := by decide +kernel
theorem dX6_sheet_14 : decode cX6_sheet 14 = .ok (.if_icmp .lt 6, 3) := by decide +kernel
theorem dX6_sheet_17 : decode cX6_sheet 17 = .ok (.bipush (-2), 2) := by decide +kernel
theorem dX6_sheet_19 : decode cX6_sheet 19 = .ok (.ireturn, 1) := by decide +kernel
theorem dX6_sheet_20 : decode cX6_sheet 20 = .ok (.iload_n 2, 1) := by decide +kernel
theorem dX6_sheet_21 : decode cX6_sheet 21 = .ok (.iconst (-1), 1) := by decide +kernel
theorem dX6_sheet_22 : decode cX6_sheet 22 = .ok (.if_icmp .ne 16, 3) := by decide +kernel
theorem dX6_sheet_25 : decode cX6_sheet 25 = .ok (.aload_n 0, 1) := by decide +kernel
theorem dX6_sheet_26 : decode cX6_sheet 26 = .ok (.getfield 34, 3) := by decide +kernel
theorem dX6_sheet_29 : decode cX6_sheet 29 = .ok (.iload_n 1, 1) := by decide +kernel
theorem dX6_sheet_30 : decode cX6_sheet 30 = .ok (.aaload, 1) := by decide +kernel
theorem dX6_sheet_31 : decode cX6_sheet 31 = .ok (.iconst (-1), 1) := by decide +kernel
theorem dX6_sheet_32 : decode cX6_sheet 32 = .ok (.iconst 0, 1) := by decide +kernel
theorem dX6_sheet_33 : decode cX6_sheet 33 = .ok (.invokevirtual 228, 3) := by decide +kernel
theorem dX6_sheet_36 : decode cX6_sheet 36 = .ok (.iconst 1, 1) := by decide +kernel
theorem dX6_sheet_37 : decode cX6_sheet 37 = .ok (.ireturn, 1) := by decide +kernel
theorem dX6_sheet_38 : decode cX6_sheet 38 = .ok (.iload_n 3, 1) := by decide +kernel
theorem dX6_sheet_39 : decode cX6_sheet 39 = .ok (.bipush 40, 2) := by decide +kernel
theorem dX6_sheet_41 : decode cX6_sheet 41 = .ok (.if_icmp .le 6, 3) := by decide +kernel
theorem dX6_sheet_44 : decode cX6_sheet 44 = .ok (.bipush (-2), 2) := by decide +kernel
theorem dX6_sheet_46 : decode cX6_sheet 46 = .ok (.ireturn, 1) := by decide +kernel
theorem dX6_sheet_47 : decode cX6_sheet 47 = .ok (.iload_n 3, 1) := by decide +kernel
theorem dX6_sheet_48 : decode cX6_sheet 48 = .ok (.ifCond .ge 6, 3) := by decide +kernel
theorem dX6_sheet_51 : decode cX6_sheet 51 = .ok (.bipush (-14), 2) := by decide +kernel
theorem dX6_sheet_53 : decode cX6_sheet 53 = .ok (.ireturn, 1) := by decide +kernel
theorem dX6_sheet_54 : decode cX6_sheet 54 = .ok (.aload_n 0, 1) := by decide +kernel
theorem dX6_sheet_55 : decode cX6_sheet 55 = .ok (.getfield 34, 3) := by decide +kernel
theorem dX6_sheet_58 : decode cX6_sheet 58 = .ok (.iload_n 1, 1) := by decide +kernel
theorem dX6_sheet_59 : decode cX6_sheet 59 = .ok (.aaload, 1) := by decide +kernel
theorem dX6_sheet_60 : decode cX6_sheet 60 = .ok (.iload_n 2, 1) := by decide +kernel
theorem dX6_sheet_61 : decode cX6_sheet 61 = .ok (.iload_n 3, 1) := by decide +kernel
theorem dX6_sheet_62 : decode cX6_sheet 62 = .ok (.invokevirtual 228, 3) := by decide +kernel
theorem dX6_sheet_65 : decode cX6_sheet 65 = .ok (.iconst 1, 1) := by decide +kernel
theorem dX6_sheet_66 : decode cX6_sheet 66 = .ok (.ireturn, 1) := by decide +kernel
theorem dX6_stand_0 : decode cX6_stand 0 = .ok (.iload_n 1, 1) := by decide +kernel
theorem dX6_stand_1 : decode cX6_stand 1 = .ok (.iconst (-1), 1) := by decide +kernel
theorem dX6_stand_2 : decode cX6_stand 2 = .ok (.if_icmp .eq 17, 3) := by decide +kernel
theorem dX6_stand_5 : decode cX6_stand 5 = .ok (.aload_n 0, 1) := by decide +kernel
theorem dX6_stand_6 : decode cX6_stand 6 = .ok (.getfield 10, 3) := by decide +kernel
theorem dX6_stand_9 : decode cX6_stand 9 = .ok (.iload_n 1, 1) := by decide +kernel
theorem dX6_stand_10 : decode cX6_stand 10 = .ok (.invokevirtual 68, 3) := by decide +kernel
theorem dX6_stand_13 : decode cX6_stand 13 = .ok (.ifCond .ne 6, 3) := by decide +kernel
theorem dX6_stand_16 : decode cX6_stand 16 = .ok (.bipush (-100), 2) := by decide +kernel
theorem dX6_stand_18 : decode cX6_stand 18 = .ok (.ireturn, 1) := by decide +kernel
theorem dX6_stand_19 : decode cX6_stand 19 = .ok (.aload_n 0, 1) := by decide +kernel
theorem dX6_stand_20 : decode cX6_stand 20 = .ok (.invokevirtual 145, 3) := by decide +kernel
theorem dX6_stand_23 : decode cX6_stand 23 = .ok (.aload_n 0, 1) := by decide +kernel
theorem dX6_stand_24 : decode cX6_stand 24 = .ok (.getfield 48, 3) := by decide +kernel
theorem dX6_stand_27 : decode cX6_stand 27 = .ok (.aload_n 0, 1) := by decide +kernel
theorem dX6_stand_28 : decode cX6_stand 28 = .ok (.getfield 41, 3) := by decide +kernel
theorem dX6_stand_31 : decode cX6_stand 31 = .ok (.invokevirtual 171, 3) := by decide +kernel

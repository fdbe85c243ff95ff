theorem dX7_ride_1 : decode cX7_ride 1 = .ok (.i2l, 1) := by decide +kernel
theorem dX7_ride_2 : decode cX7_ride 2 = .ok (.lconst 0, 1) := by decide +kernel
theorem dX7_ride_3 : decode cX7_ride 3 = .ok (.ldc2_w 108, 3) := by decide +kernel
theorem dX7_ride_6 : decode cX7_ride 6 = .ok (.invokestatic 91, 3) := by decide +kernel
theorem dX7_ride_9 : decode cX7_ride 9 = .ok (.ifCond .ne 6, 3) := by decide +kernel
theorem dX7_ride_12 : decode cX7_ride 12 = .ok (.bipush (-2), 2) := by decide +kernel
theorem dX7_ride_14 : decode cX7_ride 14 = .ok (.ireturn, 1) := by decide +kernel
theorem dX7_ride_15 : decode cX7_ride 15 = .ok (.aload_n 0, 1) := by decide +kernel
theorem dX7_ride_16 : decode cX7_ride 16 = .ok (.aload_n 0, 1) := by decide +kernel
theorem dX7_ride_17 : decode cX7_ride 17 = .ok (.invokevirtual 291, 3) := by decide +kernel
theorem dX7_ride_20 : decode cX7_ride 20 = .ok (.invokevirtual 294, 3) := by decide +kernel
theorem dX7_ride_23 : decode cX7_ride 23 = .ok (.aload_n 0, 1) := by decide +kernel
theorem dX7_ride_24 : decode cX7_ride 24 = .ok (.invokevirtual 298, 3) := by decide +kernel
theorem dX7_ride_27 : decode cX7_ride 27 = .ok (.istore_n 2, 1) := by decide +kernel
theorem dX7_ride_28 : decode cX7_ride 28 = .ok (.iload_n 1, 1) := by decide +kernel
theorem dX7_ride_29 : decode cX7_ride 29 = .ok (.ifCond .ne 7, 3) := by decide +kernel
theorem dX7_ride_32 : decode cX7_ride 32 = .ok (.iload_n 2, 1) := by decide +kernel
theorem dX7_ride_33 : decode cX7_ride 33 = .ok (.goto 19, 3) := by decide +kernel
theorem dX7_ride_36 : decode cX7_ride 36 = .ok (.iload_n 1, 1) := by decide +kernel
theorem dX7_ride_37 : decode cX7_ride 37 = .ok (.iconst 1, 1) := by decide +kernel
theorem dX7_ride_38 : decode cX7_ride 38 = .ok (.if_icmp .ne 10, 3) := by decide +kernel
theorem dX7_ride_41 : decode cX7_ride 41 = .ok (.aload_n 0, 1) := by decide +kernel
theorem dX7_ride_42 : decode cX7_ride 42 = .ok (.getfield 279, 3) := by decide +kernel
theorem dX7_ride_45 : decode cX7_ride 45 = .ok (.goto 7, 3) := by decide +kernel
theorem dX7_ride_48 : decode cX7_ride 48 = .ok (.aload_n 0, 1) := by decide +kernel
theorem dX7_ride_49 : decode cX7_ride 49 = .ok (.getfield 282, 3) := by decide +kernel
theorem dX7_ride_52 : decode cX7_ride 52 = .ok (.ireturn, 1) := by decide +kernel
theorem dX7_rider_0 : decode cX7_rider 0 = .ok (.iload_n 1, 1) := by decide +kernel
theorem dX7_rider_1 : decode cX7_rider 1 = .ok (.i2l, 1) := by decide +kernel
theorem dX7_rider_2 : decode cX7_rider 2 = .ok (.lconst 0, 1) := by decide +kernel
theorem dX7_rider_3 : decode cX7_rider 3 = .ok (.ldc2_w 95, 3) := by decide +kernel
theorem dX7_rider_6 : decode cX7_rider 6 = .ok (.invokestatic 91, 3) := by decide +kernel
theorem dX7_rider_9 : decode cX7_rider 9 = .ok (.ifCond .eq 27, 3) := by decide +kernel
theorem dX7_rider_12 : decode cX7_rider 12 = .ok (.iload_n 2, 1) := by decide +kernel
theorem dX7_rider_13 : decode cX7_rider 13 = .ok (.i2l, 1) := by decide +kernel
theorem dX7_rider_14 : decode cX7_rider 14 = .ok (.lconst 0, 1) := by decide +kernel
theorem dX7_rider_15 : decode cX7_rider 15 = .ok (.ldc2_w 97, 3) := by decide +kernel
theorem dX7_rider_18 : decode cX7_rider 18 = .ok (.invokestatic 91, 3) := by decide +kernel
theorem dX7_rider_21 : decode cX7_rider 21 = .ok (.ifCond .eq 15, 3) := by decide +kernel
theorem dX7_rider_24 : decode cX7_rider 24 = .ok (.iload_n 3, 1) := by decide +kernel
theorem dX7_rider_25 : decode cX7_rider 25 = .ok (.i2l, 1) := by decide +kernel
theorem dX7_rider_26 : decode cX7_rider 26 = .ok (.lconst 0, 1) := by decide +kernel
theorem dX7_rider_27 : decode cX7_rider 27 = .ok (.ldc2_w 99, 3) := by decide +kernel
theorem dX7_rider_30 : decode cX7_rider 30 = .ok (.invokestatic 91, 3) := by decide +kernel
theorem dX7_rider_33 : decode cX7_rider 33 = .ok (.ifCond .ne 6, 3) := by decide +kernel
theorem dX7_rider_36 : decode cX7_rider 36 = .ok (.bipush (-2), 2) := by decide +kernel
theorem dX7_rider_38 : decode cX7_rider 38 = .ok (.ireturn, 1) := by decide +kernel
theorem dX7_rider_39 : decode cX7_rider 39 = .ok (.iload_n 3, 1) := by decide +kernel
theorem dX7_rider_40 : decode cX7_rider 40 = .ok (.bipush 100, 2) := by decide +kernel
theorem dX7_rider_42 : decode cX7_rider 42 = .ok (.idiv, 1) := by decide +kernel
theorem dX7_rider_43 : decode cX7_rider 43 = .ok (.istore 4, 2) := by decide +kernel
theorem dX7_rider_45 : decode cX7_rider 45 = .ok (.iload_n 3, 1) := by decide +kernel
theorem dX7_rider_46 : decode cX7_rider 46 = .ok (.bipush 10, 2) := by decide +kernel
theorem dX7_rider_48 : decode cX7_rider 48 = .ok (.idiv, 1) := by decide +kernel
theorem dX7_rider_49 : decode cX7_rider 49 = .ok (.bipush 10, 2) := by decide +kernel
theorem dX7_rider_51 : decode cX7_rider 51 = .ok (.irem, 1) := by decide +kernel
theorem dX7_rider_52 : decode cX7_rider 52 = .ok (.istore 5, 2) := by decide +kernel
theorem dX7_rider_54 : decode cX7_rider 54 = .ok (.iload 5, 2) := by decide +kernel
theorem dX7_rider_56 : decode cX7_rider 56 = .ok (.iload 4, 2) := by decide +kernel
theorem dX7_rider_58 : decode cX7_rider 58 = .ok (.if_icmp .le 12, 3) := by decide +kernel
theorem dX7_rider_61 : decode cX7_rider 61 = .ok (.iload_n 3, 1) := by decide +kernel
theorem dX7_rider_62 : decode cX7_rider 62 = .ok (.bipush 10, 2) := by decide +kernel
theorem dX7_rider_64 : decode cX7_rider 64 = .ok (.irem, 1) := by decide +kernel
theorem dX7_rider_65 : decode cX7_rider 65 = .ok (.bipush 6, 2) := by decide +kernel
theorem dX7_rider_67 : decode cX7_rider 67 = .ok (.if_icmp .lt 6, 3) := by decide +kernel
theorem dX7_rider_70 : decode cX7_rider 70 = .ok (.bipush (-2), 2) := by decide +kernel
theorem dX7_rider_72 : decode cX7_rider 72 = .ok (.ireturn, 1) := by decide +kernel
theorem dX7_rider_73 : decode cX7_rider 73 = .ok (.aload_n 0, 1) := by decide +kernel
theorem dX7_rider_74 : decode cX7_rider 74 = .ok (.getfield 88, 3) := by decide +kernel
theorem dX7_rider_77 : decode cX7_rider 77 = .ok (.iconst 5, 1) := by decide +kernel
theorem dX7_rider_78 : decode cX7_rider 78 = .ok (.if_icmp .ne 6, 3) := by decide +kernel
theorem dX7_rider_81 : decode cX7_rider 81 = .ok (.bipush (-4), 2) := by decide +kernel
theorem dX7_rider_83 : decode cX7_rider 83 = .ok (.ireturn, 1) := by decide +kernel
theorem dX7_rider_84 : decode cX7_rider 84 = .ok (.aload_n 0, 1) := by decide +kernel
theorem dX7_rider_85 : decode cX7_rider 85 = .ok (.getfield 26, 3) := by decide +kernel
theorem dX7_rider_88 : decode cX7_rider 88 = .ok (.aload_n 0, 1) := by decide +kernel
theorem dX7_rider_89 : decode cX7_rider 89 = .ok (.getfield 88, 3) := by decide +kernel
theorem dX7_rider_92 : decode cX7_rider 92 = .ok (.iload_n 1, 1) := by decide +kernel
theorem dX7_rider_93 : decode cX7_rider 93 = .ok (.iastore, 1) := by decide +kernel
theorem dX7_rider_94 : decode cX7_rider 94 = .ok (.aload_n 0, 1) := by decide +kernel
theorem dX7_rider_95 : decode cX7_rider 95 = .ok (.getfield 29, 3) := by decide +kernel
theorem dX7_rider_98 : decode cX7_rider 98 = .ok (.aload_n 0, 1) := by decide +kernel
theorem dX7_rider_99 : decode cX7_rider 99 = .ok (.getfield 88, 3) := by decide +kernel
theorem dX7_rider_102 : decode cX7_rider 102 = .ok (.iload_n 2, 1) := by decide +kernel
theorem dX7_rider_103 : decode cX7_rider 103 = .ok (.bipush 10, 2) := by decide +kernel
theorem dX7_rider_105 : decode cX7_rider 105 = .ok (.idiv, 1) := by decide +kernel
theorem dX7_rider_106 : decode cX7_rider 106 = .ok (.iastore, 1) := by decide +kernel
theorem dX7_rider_107 : decode cX7_rider 107 = .ok (.aload_n 0, 1) := by decide +kernel
theorem dX7_rider_108 : decode cX7_rider 108 = .ok (.getfield 32, 3) := by decide +kernel
theorem dX7_rider_111 : decode cX7_rider 111 = .ok (.aload_n 0, 1) := by decide +kernel
theorem dX7_rider_112 : decode cX7_rider 112 = .ok (.getfield 88, 3) := by decide +kernel
theorem dX7_rider_115 : decode cX7_rider 115 = .ok (.iload_n 2, 1) := by decide +kernel
theorem dX7_rider_116 : decode cX7_rider 116 = .ok (.bipush 10, 2) := by decide +kernel
theorem dX7_rider_118 : decode cX7_rider 118 = .ok (.irem, 1) := by decide +kernel
theorem dX7_rider_119 : decode cX7_rider 119 = .ok (.iastore, 1) := by decide +kernel
theorem dX7_rider_120 : decode cX7_rider 120 = .ok (.aload_n 0, 1) := by decide +kernel
theorem dX7_rider_121 : decode cX7_rider 121 = .ok (.getfield 35, 3) := by decide +kernel
theorem dX7_rider_124 : decode cX7_rider 124 = .ok (.aload_n 0, 1) := by decide +kernel
theorem dX7_rider_125 : decode cX7_rider 125 = .ok (.getfield 88, 3) := by decide +kernel
theorem dX7_rider_128 : decode cX7_rider 128 = .ok (.iload 4, 2) := by decide +kernel
theorem dX7_rider_130 : decode cX7_rider 130 = .ok (.iastore, 1) := by decide +kernel
theorem dX7_rider_131 : decode cX7_rider 131 = .ok (.aload_n 0, 1) := by decide +kernel
theorem dX7_rider_132 : decode cX7_rider 132 = .ok (.getfield 38, 3) := by decide +kernel
theorem dX7_rider_135 : decode cX7_rider 135 = .ok (.aload_n 0, 1) := by decide +kernel
theorem dX7_rider_136 : decode cX7_rider 136 = .ok (.getfield 88, 3) := by decide +kernel
theorem dX7_rider_139 : decode cX7_rider 139 = .ok (.iload 5, 2) := by decide +kernel
theorem dX7_rider_141 : decode cX7_rider 141 = .ok (.iastore, 1) := by decide +kernel
theorem dX7_rider_142 : decode cX7_rider 142 = .ok (.aload_n 0, 1) := by decide +kernel
theorem dX7_rider_143 : decode cX7_rider 143 = .ok (.getfield 41, 3) := by decide +kernel
theorem dX7_rider_146 : decode cX7_rider 146 = .ok (.aload_n 0, 1) := by decide +kernel
theorem dX7_rider_147 : decode cX7_rider 147 = .ok (.getfield 88, 3) := by decide +kernel
theorem dX7_rider_150 : decode cX7_rider 150 = .ok (.iload_n 3, 1) := by decide +kernel
theorem dX7_rider_151 : decode cX7_rider 151 = .ok (.bipush 10, 2) := by decide +kernel
theorem dX7_rider_153 : decode cX7_rider 153 = .ok (.irem, 1) := by decide +kernel
theorem dX7_rider_154 : decode cX7_rider 154 = .ok (.iastore, 1) := by decide +kernel
theorem dX7_rider_155 : decode cX7_rider 155 = .ok (.aload_n 0, 1) := by decide +kernel
theorem dX7_rider_156 : decode cX7_rider 156 = .ok (.getfield 44, 3) := by decide +kernel
theorem dX7_rider_159 : decode cX7_rider 159 = .ok (.aload_n 0, 1) := by decide +kernel
theorem dX7_rider_160 : decode cX7_rider 160 = .ok (.getfield 88, 3) := by decide +kernel
theorem dX7_rider_163 : decode cX7_rider 163 = .ok (.bipush 100, 2) := by decide +kernel
theorem dX7_rider_165 : decode cX7_rider 165 = .ok (.iastore, 1) := by decide +kernel
theorem dX7_rider_166 : decode cX7_rider 166 = .ok (.aload_n 0, 1) := by decide +kernel
theorem dX7_rider_167 : decode cX7_rider 167 = .ok (.aload_n 0, 1) := by decide +kernel
theorem dX7_rider_168 : decode cX7_rider 168 = .ok (.getfield 88, 3) := by decide +kernel
theorem dX7_rider_171 : decode cX7_rider 171 = .ok (.iconst 1, 1) := by decide +kernel
theorem dX7_rider_172 : decode cX7_rider 172 = .ok (.iadd, 1) := by decide +kernel
theorem dX7_rider_173 : decode cX7_rider 173 = .ok (.invokevirtual 101, 3) := by decide +kernel
theorem dX7_rider_176 : decode cX7_rider 176 = .ok (.ifCond .eq 6, 3) := by decide +kernel
theorem dX7_rider_179 : decode cX7_rider 179 = .ok (.bipush (-3), 2) := by decide +kernel
theorem dX7_rider_181 : decode cX7_rider 181 = .ok (.ireturn, 1) := by decide +kernel
theorem dX7_rider_182 : decode cX7_rider 182 = .ok (.aload_n 0, 1) := by decide +kernel
theorem dX7_rider_183 : decode cX7_rider 183 = .ok (.dup, 1) := by decide +kernel
theorem dX7_rider_184 : decode cX7_rider 184 = .ok (.getfield 88, 3) := by decide +kernel
theorem dX7_rider_187 : decode cX7_rider 187 = .ok (.iconst 1, 1) := by decide +kernel
theorem dX7_rider_188 : decode cX7_rider 188 = .ok (.iadd, 1) := by decide +kernel
theorem dX7_rider_189 : decode cX7_rider 189 = .ok (.putfield 88, 3) := by decide +kernel
theorem dX7_rider_192 : decode cX7_rider 192 = .ok (.aload_n 0, 1) := by decide +kernel
theorem dX7_rider_193 : decode cX7_rider 193 = .ok (.getfield 88, 3) := by decide +kernel
theorem dX7_rider_196 : decode cX7_rider 196 = .ok (.iconst 1, 1) := by decide +kernel
theorem dX7_rider_197 : decode cX7_rider 197 = .ok (.isub, 1) := by decide +kernel
theorem dX7_rider_198 : decode cX7_rider 198 = .ok (.ireturn, 1) := by decide +kernel
theorem dX7_riders_0 : decode cX7_riders 0 = .ok (.iload_n 1, 1) := by decide +kernel
theorem dX7_riders_1 : decode cX7_riders 1 = .ok (.invokestatic 329, 3) := by decide +kernel
theorem dX7_riders_4 : decode cX7_riders 4 = .ok (.ifCond .eq 28, 3) := by decide +kernel
theorem dX7_riders_7 : decode cX7_riders 7 = .ok (.iload_n 2, 1) := by decide +kernel
theorem dX7_riders_8 : decode cX7_riders 8 = .ok (.i2l, 1) := by decide +kernel
theorem dX7_riders_9 : decode cX7_riders 9 = .ok (.lconst 0, 1) := by decide +kernel
theorem dX7_riders_10 : decode cX7_riders 10 = .ok (.ldc2_w 108, 3) := by decide +kernel
theorem dX7_riders_13 : decode cX7_riders 13 = .ok (.invokestatic 91, 3) := by decide +kernel
theorem dX7_riders_16 : decode cX7_riders 16 = .ok (.ifCond .eq 16, 3) := by decide +kernel
theorem dX7_riders_19 : decode cX7_riders 19 = .ok (.iload 4, 2) := by decide +kernel
theorem dX7_riders_21 : decode cX7_riders 21 = .ok (.i2l, 1) := by decide +kernel
theorem dX7_riders_22 : decode cX7_riders 22 = .ok (.lconst 0, 1) := by decide +kernel
theorem dX7_riders_23 : decode cX7_riders 23 = .ok (.ldc2_w 95, 3) := by decide +kernel
theorem dX7_riders_26 : decode cX7_riders 26 = .ok (.invokestatic 91, 3) := by decide +kernel
theorem dX7_riders_29 : decode cX7_riders 29 = .ok (.ifCond .ne 6, 3) := by decide +kernel
theorem dX7_riders_32 : decode cX7_riders 32 = .ok (.bipush (-2), 2) := by decide +kernel
theorem dX7_riders_34 : decode cX7_riders 34 = .ok (.ireturn, 1) := by decide +kernel
theorem dX7_riders_35 : decode cX7_riders 35 = .ok (.aload_n 0, 1) := by decide +kernel
theorem dX7_riders_36 : decode cX7_riders 36 = .ok (.getfield 68, 3) := by decide +kernel
theorem dX7_riders_39 : decode cX7_riders 39 = .ok (.iload_n 1, 1) := by decide +kernel
theorem dX7_riders_40 : decode cX7_riders 40 = .ok (.baload, 1) := by decide +kernel
theorem dX7_riders_41 : decode cX7_riders 41 = .ok (.ifCond .eq 16, 3) := by decide +kernel
theorem dX7_riders_44 : decode cX7_riders 44 = .ok (.aload_n 0, 1) := by decide +kernel
theorem dX7_riders_45 : decode cX7_riders 45 = .ok (.getfield 72, 3) := by decide +kernel
theorem dX7_riders_48 : decode cX7_riders 48 = .ok (.iload_n 1, 1) := by decide +kernel
theorem dX7_riders_49 : decode cX7_riders 49 = .ok (.iaload, 1) := by decide +kernel
theorem dX7_riders_50 : decode cX7_riders 50 = .ok (.iload_n 2, 1) := by decide +kernel
theorem dX7_riders_51 : decode cX7_riders 51 = .ok (.if_icmp .eq 6, 3) := by decide +kernel
theorem dX7_riders_54 : decode cX7_riders 54 = .ok (.bipush (-13), 2) := by decide +kernel
theorem dX7_riders_56 : decode cX7_riders 56 = .ok (.ireturn, 1) := by decide +kernel
theorem dX7_riders_57 : decode cX7_riders 57 = .ok (.aload_n 0, 1) := by decide +kernel
theorem dX7_riders_58 : decode cX7_riders 58 = .ok (.getfield 68, 3) := by decide +kernel
theorem dX7_riders_61 : decode cX7_riders 61 = .ok (.iload_n 1, 1) := by decide +kernel
theorem dX7_riders_62 : decode cX7_riders 62 = .ok (.baload, 1) := by decide +kernel
theorem dX7_riders_63 : decode cX7_riders 63 = .ok (.ifCond .ne 6, 3) := by decide +kernel
theorem dX7_riders_66 : decode cX7_riders 66 = .ok (.bipush (-11), 2) := by decide +kernel
theorem dX7_riders_68 : decode cX7_riders 68 = .ok (.ireturn, 1) := by decide +kernel
theorem dX7_riders_69 : decode cX7_riders 69 = .ok (.iconst 0, 1) := by decide +kernel
theorem dX7_riders_70 : decode cX7_riders 70 = .ok (.istore 5, 2) := by decide +kernel
theorem dX7_riders_72 : decode cX7_riders 72 = .ok (.iconst 0, 1) := by decide +kernel
theorem dX7_riders_73 : decode cX7_riders 73 = .ok (.istore 6, 2) := by decide +kernel
theorem dX7_riders_75 : decode cX7_riders 75 = .ok (.iload 6, 2) := by decide +kernel
theorem dX7_riders_77 : decode cX7_riders 77 = .ok (.iload 4, 2) := by decide +kernel
theorem dX7_riders_79 : decode cX7_riders 79 = .ok (.if_icmp .ge 88, 3) := by decide +kernel
theorem dX7_riders_82 : decode cX7_riders 82 = .ok (.iload_n 3, 1) := by decide +kernel
theorem dX7_riders_83 : decode cX7_riders 83 = .ok (.ifCond .lt 20, 3) := by decide +kernel
theorem dX7_riders_86 : decode cX7_riders 86 = .ok (.iload_n 3, 1) := by decide +kernel
theorem dX7_riders_87 : decode cX7_riders 87 = .ok (.aload_n 0, 1) := by decide +kernel
theorem dX7_riders_88 : decode cX7_riders 88 = .ok (.getfield 75, 3) := by decide +kernel
theorem dX7_riders_91 : decode cX7_riders 91 = .ok (.iload_n 1, 1) := by decide +kernel
theorem dX7_riders_92 : decode cX7_riders 92 = .ok (.iaload, 1) := by decide +kernel
theorem dX7_riders_93 : decode cX7_riders 93 = .ok (.iconst 3, 1) := by decide +kernel
theorem dX7_riders_94 : decode cX7_riders 94 = .ok (.iload 6, 2) := by decide +kernel
theorem dX7_riders_96 : decode cX7_riders 96 = .ok (.imul, 1) := by decide +kernel
theorem dX7_riders_97 : decode cX7_riders 97 = .ok (.isub, 1) := by decide +kernel
theorem dX7_riders_98 : decode cX7_riders 98 = .ok (.iconst 3, 1) := by decide +kernel
theorem dX7_riders_99 : decode cX7_riders 99 = .ok (.isub, 1) := by decide +kernel
theorem dX7_riders_100 : decode cX7_riders 100 = .ok (.if_icmp .le 6, 3) := by decide +kernel
theorem dX7_riders_103 : decode cX7_riders 103 = .ok (.bipush (-12), 2) := by decide +kernel
theorem dX7_riders_105 : decode cX7_riders 105 = .ok (.ireturn, 1) := by decide +kernel
theorem dX7_riders_106 : decode cX7_riders 106 = .ok (.bipush 40, 2) := by decide +kernel
theorem dX7_riders_108 : decode cX7_riders 108 = .ok (.iload_n 1, 1) := by decide +kernel
theorem dX7_riders_109 : decode cX7_riders 109 = .ok (.imul, 1) := by decide +kernel
theorem dX7_riders_110 : decode cX7_riders 110 = .ok (.iload_n 3, 1) := by decide +kernel
theorem dX7_riders_111 : decode cX7_riders 111 = .ok (.iadd, 1) := by decide +kernel
theorem dX7_riders_112 : decode cX7_riders 112 = .ok (.iconst 3, 1) := by decide +kernel
theorem dX7_riders_113 : decode cX7_riders 113 = .ok (.iload 6, 2) := by decide +kernel
theorem dX7_riders_115 : decode cX7_riders 115 = .ok (.imul, 1) := by decide +kernel
theorem dX7_riders_116 : decode cX7_riders 116 = .ok (.iadd, 1) := by decide +kernel
theorem dX7_riders_117 : decode cX7_riders 117 = .ok (.istore 7, 2) := by decide +kernel
theorem dX7_riders_119 : decode cX7_riders 119 = .ok (.iload 5, 2) := by decide +kernel
theorem dX7_riders_121 : decode cX7_riders 121 = .ok (.aload_n 0, 1) := by decide +kernel
theorem dX7_riders_122 : decode cX7_riders 122 = .ok (.aload_n 0, 1) := by decide +kernel
theorem dX7_riders_123 : decode cX7_riders 123 = .ok (.getfield 78, 3) := by decide +kernel
theorem dX7_riders_126 : decode cX7_riders 126 = .ok (.iload 7, 2) := by decide +kernel
theorem dX7_riders_128 : decode cX7_riders 128 = .ok (.iaload, 1) := by decide +kernel
theorem dX7_riders_129 : decode cX7_riders 129 = .ok (.aload_n 0, 1) := by decide +kernel
theorem dX7_riders_130 : decode cX7_riders 130 = .ok (.getfield 78, 3) := by decide +kernel
theorem dX7_riders_133 : decode cX7_riders 133 = .ok (.iload 7, 2) := by decide +kernel
theorem dX7_riders_135 : decode cX7_riders 135 = .ok (.iconst 1, 1) := by decide +kernel
theorem dX7_riders_136 : decode cX7_riders 136 = .ok (.iadd, 1) := by decide +kernel
theorem dX7_riders_137 : decode cX7_riders 137 = .ok (.iaload, 1) := by decide +kernel
theorem dX7_riders_138 : decode cX7_riders 138 = .ok (.aload_n 0, 1) := by decide +kernel
theorem dX7_riders_139 : decode cX7_riders 139 = .ok (.getfield 78, 3) := by decide +kernel
theorem dX7_riders_142 : decode cX7_riders 142 = .ok (.iload 7, 2) := by decide +kernel
theorem dX7_riders_144 : decode cX7_riders 144 = .ok (.iconst 2, 1) := by decide +kernel
theorem dX7_riders_145 : decode cX7_riders 145 = .ok (.iadd, 1) := by decide +kernel
theorem dX7_riders_146 : decode cX7_riders 146 = .ok (.iaload, 1) := by decide +kernel
theorem dX7_riders_147 : decode cX7_riders 147 = .ok (.invokevirtual 362, 3) := by decide +kernel
theorem dX7_riders_150 : decode cX7_riders 150 = .ok (.ifCond .lt 7, 3) := by decide +kernel
theorem dX7_riders_153 : decode cX7_riders 153 = .ok (.iconst 1, 1) := by decide +kernel
theorem dX7_riders_154 : decode cX7_riders 154 = .ok (.goto 4, 3) := by decide +kernel
theorem dX7_riders_157 : decode cX7_riders 157 = .ok (.iconst 0, 1) := by decide +kernel
theorem dX7_riders_158 : decode cX7_riders 158 = .ok (.iadd, 1) := by decide +kernel
theorem dX7_riders_159 : decode cX7_riders 159 = .ok (.istore 5, 2) := by decide +kernel
theorem dX7_riders_161 : decode cX7_riders 161 = .ok (.iinc 6 1, 3) := by decide +kernel
theorem dX7_riders_164 : decode cX7_riders 164 = .ok (.goto (-89), 3) := by decide +kernel
theorem dX7_riders_167 : decode cX7_riders 167 = .ok (.iload 5, 2) := by decide +kernel
theorem dX7_riders_169 : decode cX7_riders 169 = .ok (.ireturn, 1) := by decide +kernel
theorem dX7_rides_0 : decode cX7_rides 0 = .ok (.iconst 0, 1) := by decide +kernel
theorem dX7_rides_1 : decode cX7_rides 1 = .ok (.istore_n 1, 1) := by decide +kernel
theorem dX7_rides_2 : decode cX7_rides 2 = .ok (.aload_n 0, 1) := by decide +kernel
theorem dX7_rides_3 : decode cX7_rides 3 = .ok (.iconst 0, 1) := by decide +kernel
theorem dX7_rides_4 : decode cX7_rides 4 = .ok (.putfield 279, 3) := by decide +kernel
theorem dX7_rides_7 : decode cX7_rides 7 = .ok (.aload_n 0, 1) := by decide +kernel
theorem dX7_rides_8 : decode cX7_rides 8 = .ok (.iconst 0, 1) := by decide +kernel
theorem dX7_rides_9 : decode cX7_rides 9 = .ok (.putfield 282, 3) := by decide +kernel
theorem dX7_rides_12 : decode cX7_rides 12 = .ok (.iconst 0, 1) := by decide +kernel
theorem dX7_rides_13 : decode cX7_rides 13 = .ok (.istore_n 2, 1) := by decide +kernel
theorem dX7_rides_14 : decode cX7_rides 14 = .ok (.iload_n 2, 1) := by decide +kernel
theorem dX7_rides_15 : decode cX7_rides 15 = .ok (.bipush 10, 2) := by decide +kernel
theorem dX7_rides_17 : decode cX7_rides 17 = .ok (.if_icmp .ge 57, 3) := by decide +kernel
theorem dX7_rides_20 : decode cX7_rides 20 = .ok (.aload_n 0, 1) := by decide +kernel
theorem dX7_rides_21 : decode cX7_rides 21 = .ok (.iload_n 2, 1) := by decide +kernel
theorem dX7_rides_22 : decode cX7_rides 22 = .ok (.invokevirtual 285, 3) := by decide +kernel
theorem dX7_rides_25 : decode cX7_rides 25 = .ok (.istore_n 3, 1) := by decide +kernel
theorem dX7_rides_26 : decode cX7_rides 26 = .ok (.aload_n 0, 1) := by decide +kernel
theorem dX7_rides_27 : decode cX7_rides 27 = .ok (.dup, 1) := by decide +kernel
theorem dX7_rides_28 : decode cX7_rides 28 = .ok (.getfield 279, 3) := by decide +kernel
theorem dX7_rides_31 : decode cX7_rides 31 = .ok (.iload_n 3, 1) := by decide +kernel
theorem dX7_rides_32 : decode cX7_rides 32 = .ok (.invokestatic 270, 3) := by decide +kernel
theorem dX7_rides_35 : decode cX7_rides 35 = .ok (.iadd, 1) := by decide +kernel
theorem dX7_rides_36 : decode cX7_rides 36 = .ok (.putfield 279, 3) := by decide +kernel
theorem dX7_rides_39 : decode cX7_rides 39 = .ok (.aload_n 0, 1) := by decide +kernel
theorem dX7_rides_40 : decode cX7_rides 40 = .ok (.dup, 1) := by decide +kernel
theorem dX7_rides_41 : decode cX7_rides 41 = .ok (.getfield 282, 3) := by decide +kernel
theorem dX7_rides_44 : decode cX7_rides 44 = .ok (.iload_n 3, 1) := by decide +kernel
theorem dX7_rides_45 : decode cX7_rides 45 = .ok (.ifCond .eq 7, 3) := by decide +kernel
theorem dX7_rides_48 : decode cX7_rides 48 = .ok (.iconst 1, 1) := by decide +kernel
theorem dX7_rides_49 : decode cX7_rides 49 = .ok (.goto 4, 3) := by decide +kernel
theorem dX7_rides_52 : decode cX7_rides 52 = .ok (.iconst 0, 1) := by decide +kernel
theorem dX7_rides_53 : decode cX7_rides 53 = .ok (.iload_n 2, 1) := by decide +kernel
theorem dX7_rides_54 : decode cX7_rides 54 = .ok (.ishl, 1) := by decide +kernel
theorem dX7_rides_55 : decode cX7_rides 55 = .ok (.ior, 1) := by decide +kernel
theorem dX7_rides_56 : decode cX7_rides 56 = .ok (.putfield 282, 3) := by decide +kernel
theorem dX7_rides_59 : decode cX7_rides 59 = .ok (.iload_n 1, 1) := by decide +kernel
theorem dX7_rides_60 : decode cX7_rides 60 = .ok (.aload_n 0, 1) := by decide +kernel
theorem dX7_rides_61 : decode cX7_rides 61 = .ok (.iload_n 2, 1) := by decide +kernel
theorem dX7_rides_62 : decode cX7_rides 62 = .ok (.iload_n 3, 1) := by decide +kernel
theorem dX7_rides_63 : decode cX7_rides 63 = .ok (.invokevirtual 288, 3) := by decide +kernel
theorem dX7_rides_66 : decode cX7_rides 66 = .ok (.iadd, 1) := by decide +kernel
theorem dX7_rides_67 : decode cX7_rides 67 = .ok (.istore_n 1, 1) := by decide +kernel
theorem dX7_rides_68 : decode cX7_rides 68 = .ok (.iinc 2 1, 3) := by decide +kernel
theorem dX7_rides_71 : decode cX7_rides 71 = .ok (.goto (-57), 3) := by decide +kernel
theorem dX7_rides_74 : decode cX7_rides 74 = .ok (.iload_n 1, 1) := by decide +kernel
theorem dX7_rides_75 : decode cX7_rides 75 = .ok (.ireturn, 1) := by decide +kernel
theorem dX7_says_0 : decode cX7_says 0 = .ok (.aload_n 0, 1) := by decide +kernel
theorem dX7_says_1 : decode cX7_says 1 = .ok (.iload_n 2, 1) := by decide +kernel
theorem dX7_says_2 : decode cX7_says 2 = .ok (.putfield 189, 3) := by decide +kernel
theorem dX7_says_5 : decode cX7_says 5 = .ok (.aload_n 0, 1) := by decide +kernel
theorem dX7_says_6 : decode cX7_says 6 = .ok (.iload_n 3, 1) := by decide +kernel
theorem dX7_says_7 : decode cX7_says 7 = .ok (.putfield 192, 3) := by decide +kernel
theorem dX7_says_10 : decode cX7_says 10 = .ok (.aload_n 0, 1) := by decide +kernel
theorem dX7_says_11 : decode cX7_says 11 = .ok (.aload_n 0, 1) := by decide +kernel
theorem dX7_says_12 : decode cX7_says 12 = .ok (.getfield 32, 3) := by decide +kernel
theorem dX7_says_15 : decode cX7_says 15 = .ok (.iload_n 2, 1) := by decide +kernel
theorem dX7_says_16 : decode cX7_says 16 = .ok (.iaload, 1) := by decide +kernel
theorem dX7_says_17 : decode cX7_says 17 = .ok (.putfield 195, 3) := by decide +kernel
theorem dX7_says_20 : decode cX7_says 20 = .ok (.aload_n 0, 1) := by decide +kernel
theorem dX7_says_21 : decode cX7_says 21 = .ok (.iload 4, 2) := by decide +kernel
theorem dX7_says_23 : decode cX7_says 23 = .ok (.putfield 198, 3) := by decide +kernel
theorem dX7_says_26 : decode cX7_says 26 = .ok (.aload_n 0, 1) := by decide +kernel
theorem dX7_says_27 : decode cX7_says 27 = .ok (.aload_n 0, 1) := by decide +kernel
theorem dX7_says_28 : decode cX7_says 28 = .ok (.getfield 29, 3) := by decide +kernel
theorem dX7_says_31 : decode cX7_says 31 = .ok (.iload_n 2, 1) := by decide +kernel
theorem dX7_says_32 : decode cX7_says 32 = .ok (.iaload, 1) := by decide +kernel
theorem dX7_says_33 : decode cX7_says 33 = .ok (.putfield 201, 3) := by decide +kernel
theorem dX7_says_36 : decode cX7_says 36 = .ok (.aload_n 0, 1) := by decide +kernel
theorem dX7_says_37 : decode cX7_says 37 = .ok (.iload 5, 2) := by decide +kernel
theorem dX7_says_39 : decode cX7_says 39 = .ok (.putfield 204, 3) := by decide +kernel
theorem dX7_says_42 : decode cX7_says 42 = .ok (.aload_n 0, 1) := by decide +kernel
theorem dX7_says_43 : decode cX7_says 43 = .ok (.aload_n 0, 1) := by decide +kernel
theorem dX7_says_44 : decode cX7_says 44 = .ok (.getfield 247, 3) := by decide +kernel
theorem dX7_says_47 : decode cX7_says 47 = .ok (.iload_n 1, 1) := by decide +kernel
theorem dX7_says_48 : decode cX7_says 48 = .ok (.invokevirtual 244, 3) := by decide +kernel
theorem dX7_says_51 : decode cX7_says 51 = .ok (.iconst 0, 1) := by decide +kernel
theorem dX7_says_52 : decode cX7_says 52 = .ok (.bipush 99, 2) := by decide +kernel
theorem dX7_says_54 : decode cX7_says 54 = .ok (.invokestatic 250, 3) := by decide +kernel
theorem dX7_says_57 : decode cX7_says 57 = .ok (.ireturn, 1) := by decide +kernel
theorem dX7_second_0 : decode cX7_second 0 = .ok (.iload_n 1, 1) := by decide +kernel
theorem dX7_second_1 : decode cX7_second 1 = .ok (.i2l, 1) := by decide +kernel
theorem dX7_second_2 : decode cX7_second 2 = .ok (.lconst 0, 1) := by decide +kernel
theorem dX7_second_3 : decode cX7_second 3 = .ok (.lconst 1, 1) := by decide +kernel
theorem dX7_second_4 : decode cX7_second 4 = .ok (.invokestatic 91, 3) := by decide +kernel
theorem dX7_second_7 : decode cX7_second 7 = .ok (.ifCond .ne 7, 3) := by decide +kernel
theorem dX7_second_10 : decode cX7_second 10 = .ok (.ldc_w 322, 3) := by decide +kernel
theorem dX7_second_13 : decode cX7_second 13 = .ok (.ireturn, 1) := by decide +kernel
theorem dX7_second_14 : decode cX7_second 14 = .ok (.iload_n 1, 1) := by decide +kernel
theorem dX7_second_15 : decode cX7_second 15 = .ok (.ifCond .ne 47, 3) := by decide +kernel
theorem dX7_second_18 : decode cX7_second 18 = .ok (.aload_n 0, 1) := by decide +kernel
theorem dX7_second_19 : decode cX7_second 19 = .ok (.getfield 23, 3) := by decide +kernel
theorem dX7_second_22 : decode cX7_second 22 = .ok (.istore_n 2, 1) := by decide +kernel
theorem dX7_second_23 : decode cX7_second 23 = .ok (.aload_n 0, 1) := by decide +kernel
theorem dX7_second_24 : decode cX7_second 24 = .ok (.aload_n 0, 1) := by decide +kernel
theorem dX7_second_25 : decode cX7_second 25 = .ok (.invokevirtual 291, 3) := by decide +kernel
theorem dX7_second_28 : decode cX7_second 28 = .ok (.invokevirtual 294, 3) := by decide +kernel
theorem dX7_second_31 : decode cX7_second 31 = .ok (.aload_n 0, 1) := by decide +kernel
theorem dX7_second_32 : decode cX7_second 32 = .ok (.iconst 1, 1) := by decide +kernel
theorem dX7_second_33 : decode cX7_second 33 = .ok (.putfield 23, 3) := by decide +kernel
theorem dX7_second_36 : decode cX7_second 36 = .ok (.aload_n 0, 1) := by decide +kernel
theorem dX7_second_37 : decode cX7_second 37 = .ok (.invokevirtual 298, 3) := by decide +kernel
theorem dX7_second_40 : decode cX7_second 40 = .ok (.istore_n 3, 1) := by decide +kernel
theorem dX7_second_41 : decode cX7_second 41 = .ok (.aload_n 0, 1) := by decide +kernel
theorem dX7_second_42 : decode cX7_second 42 = .ok (.iconst 2, 1) := by decide +kernel
theorem dX7_second_43 : decode cX7_second 43 = .ok (.putfield 23, 3) := by decide +kernel
theorem dX7_second_46 : decode cX7_second 46 = .ok (.aload_n 0, 1) := by decide +kernel
theorem dX7_second_47 : decode cX7_second 47 = .ok (.invokevirtual 298, 3) := by decide +kernel
theorem dX7_second_50 : decode cX7_second 50 = .ok (.istore 4, 2) := by decide +kernel
theorem dX7_second_52 : decode cX7_second 52 = .ok (.aload_n 0, 1) := by decide +kernel
theorem dX7_second_53 : decode cX7_second 53 = .ok (.iload_n 2, 1) := by decide +kernel
theorem dX7_second_54 : decode cX7_second 54 = .ok (.putfield 23, 3) := by decide +kernel
theorem dX7_second_57 : decode cX7_second 57 = .ok (.iload_n 3, 1) := by decide +kernel
theorem dX7_second_58 : decode cX7_second 58 = .ok (.iload 4, 2) := by decide +kernel
theorem dX7_second_60 : decode cX7_second 60 = .ok (.isub, 1) := by decide +kernel
theorem dX7_second_61 : decode cX7_second 61 = .ok (.ireturn, 1) := by decide +kernel
theorem dX7_second_62 : decode cX7_second 62 = .ok (.iconst (-1), 1) := by decide +kernel
theorem dX7_second_63 : decode cX7_second 63 = .ok (.istore_n 2, 1) := by decide +kernel
theorem dX7_second_64 : decode cX7_second 64 = .ok (.iconst 0, 1) := by decide +kernel
theorem dX7_second_65 : decode cX7_second 65 = .ok (.istore_n 3, 1) := by decide +kernel
theorem dX7_second_66 : decode cX7_second 66 = .ok (.iconst 0, 1) := by decide +kernel
theorem dX7_second_67 : decode cX7_second 67 = .ok (.istore 4, 2) := by decide +kernel
theorem dX7_second_69 : decode cX7_second 69 = .ok (.iload 4, 2) := by decide +kernel
theorem dX7_second_71 : decode cX7_second 71 = .ok (.aload_n 0, 1) := by decide +kernel
theorem dX7_second_72 : decode cX7_second 72 = .ok (.getfield 88, 3) := by decide +kernel
theorem dX7_second_75 : decode cX7_second 75 = .ok (.if_icmp .ge 47, 3) := by decide +kernel
theorem dX7_second_78 : decode cX7_second 78 = .ok (.aload_n 0, 1) := by decide +kernel
theorem dX7_second_79 : decode cX7_second 79 = .ok (.aload_n 0, 1) := by decide +kernel
theorem dX7_second_80 : decode cX7_second 80 = .ok (.invokevirtual 291, 3) := by decide +kernel
theorem dX7_second_83 : decode cX7_second 83 = .ok (.iconst 1, 1) := by decide +kernel
theorem dX7_second_84 : decode cX7_second 84 = .ok (.iload 4, 2) := by decide +kernel
theorem dX7_second_86 : decode cX7_second 86 = .ok (.ishl, 1) := by decide +kernel
theorem dX7_second_87 : decode cX7_second 87 = .ok (.iconst (-1), 1) := by decide +kernel
theorem dX7_second_88 : decode cX7_second 88 = .ok (.ixor, 1) := by decide +kernel
theorem dX7_second_89 : decode cX7_second 89 = .ok (.iand, 1) := by decide +kernel
theorem dX7_second_90 : decode cX7_second 90 = .ok (.invokevirtual 294, 3) := by decide +kernel
theorem dX7_second_93 : decode cX7_second 93 = .ok (.aload_n 0, 1) := by decide +kernel
theorem dX7_second_94 : decode cX7_second 94 = .ok (.invokevirtual 298, 3) := by decide +kernel
theorem dX7_second_97 : decode cX7_second 97 = .ok (.istore 5, 2) := by decide +kernel
theorem dX7_second_99 : decode cX7_second 99 = .ok (.iload_n 2, 1) := by decide +kernel
theorem dX7_second_100 : decode cX7_second 100 = .ok (.iconst (-1), 1) := by decide +kernel
theorem dX7_second_101 : decode cX7_second 101 = .ok (.if_icmp .eq 9, 3) := by decide +kernel
theorem dX7_second_104 : decode cX7_second 104 = .ok (.iload 5, 2) := by decide +kernel
theorem dX7_second_106 : decode cX7_second 106 = .ok (.iload_n 3, 1) := by decide +kernel
theorem dX7_second_107 : decode cX7_second 107 = .ok (.if_icmp .ge 9, 3) := by decide +kernel
theorem dX7_second_110 : decode cX7_second 110 = .ok (.iload 4, 2) := by decide +kernel
theorem dX7_second_112 : decode cX7_second 112 = .ok (.istore_n 2, 1) := by decide +kernel
theorem dX7_second_113 : decode cX7_second 113 = .ok (.iload 5, 2) := by decide +kernel
theorem dX7_second_115 : decode cX7_second 115 = .ok (.istore_n 3, 1) := by decide +kernel
theorem dX7_second_116 : decode cX7_second 116 = .ok (.iinc 4 1, 3) := by decide +kernel
theorem dX7_second_119 : decode cX7_second 119 = .ok (.goto (-50), 3) := by decide +kernel
theorem dX7_second_122 : decode cX7_second 122 = .ok (.iload_n 2, 1) := by decide +kernel
theorem dX7_second_123 : decode cX7_second 123 = .ok (.ireturn, 1) := by decide +kernel
theorem dX7_seeks_0 : decode cX7_seeks 0 = .ok (.aload_n 0, 1) := by decide +kernel
theorem dX7_seeks_1 : decode cX7_seeks 1 = .ok (.aload_n 0, 1) := by decide +kernel
theorem dX7_seeks_2 : decode cX7_seeks 2 = .ok (.invokevirtual 291, 3) := by decide +kernel
theorem dX7_seeks_5 : decode cX7_seeks 5 = .ok (.invokevirtual 294, 3) := by decide +kernel
theorem dX7_seeks_8 : decode cX7_seeks 8 = .ok (.aload_n 0, 1) := by decide +kernel
theorem dX7_seeks_9 : decode cX7_seeks 9 = .ok (.invokevirtual 313, 3) := by decide +kernel
theorem dX7_seeks_12 : decode cX7_seeks 12 = .ok (.aload_n 0, 1) := by decide +kernel
theorem dX7_seeks_13 : decode cX7_seeks 13 = .ok (.iconst 0, 1) := by decide +kernel
theorem dX7_seeks_14 : decode cX7_seeks 14 = .ok (.putfield 304, 3) := by decide +kernel
theorem dX7_seeks_17 : decode cX7_seeks 17 = .ok (.aload_n 0, 1) := by decide +kernel
theorem dX7_seeks_18 : decode cX7_seeks 18 = .ok (.iconst 0, 1) := by decide +kernel
theorem dX7_seeks_19 : decode cX7_seeks 19 = .ok (.invokevirtual 310, 3) := by decide +kernel
theorem dX7_seeks_22 : decode cX7_seeks 22 = .ok (.aload_n 0, 1) := by decide +kernel
theorem dX7_seeks_23 : decode cX7_seeks 23 = .ok (.invokevirtual 316, 3) := by decide +kernel
theorem dX7_seeks_26 : decode cX7_seeks 26 = .ok (.return_, 1) := by decide +kernel
theorem dX7_seen_0 : decode cX7_seen 0 = .ok (.iload_n 1, 1) := by decide +kernel
theorem dX7_seen_1 : decode cX7_seen 1 = .ok (.invokestatic 329, 3) := by decide +kernel
theorem dX7_seen_4 : decode cX7_seen 4 = .ok (.ifCond .eq 23, 3) := by decide +kernel
theorem dX7_seen_7 : decode cX7_seen 7 = .ok (.aload_n 0, 1) := by decide +kernel
theorem dX7_seen_8 : decode cX7_seen 8 = .ok (.iload_n 2, 1) := by decide +kernel
theorem dX7_seen_9 : decode cX7_seen 9 = .ok (.invokevirtual 105, 3) := by decide +kernel
theorem dX7_seen_12 : decode cX7_seen 12 = .ok (.ifCond .eq 15, 3) := by decide +kernel
theorem dX7_seen_15 : decode cX7_seen 15 = .ok (.iload_n 3, 1) := by decide +kernel
theorem dX7_seen_16 : decode cX7_seen 16 = .ok (.i2l, 1) := by decide +kernel
theorem dX7_seen_17 : decode cX7_seen 17 = .ok (.lconst 0, 1) := by decide +kernel
theorem dX7_seen_18 : decode cX7_seen 18 = .ok (.ldc2_w 108, 3) := by decide +kernel
theorem dX7_seen_21 : decode cX7_seen 21 = .ok (.invokestatic 91, 3) := by decide +kernel
theorem dX7_seen_24 : decode cX7_seen 24 = .ok (.ifCond .ne 6, 3) := by decide +kernel
theorem dX7_seen_27 : decode cX7_seen 27 = .ok (.bipush (-2), 2) := by decide +kernel
theorem dX7_seen_29 : decode cX7_seen 29 = .ok (.ireturn, 1) := by decide +kernel
theorem dX7_seen_30 : decode cX7_seen 30 = .ok (.aload_n 0, 1) := by decide +kernel
theorem dX7_seen_31 : decode cX7_seen 31 = .ok (.iload_n 1, 1) := by decide +kernel
theorem dX7_seen_32 : decode cX7_seen 32 = .ok (.invokevirtual 332, 3) := by decide +kernel
theorem dX7_seen_35 : decode cX7_seen 35 = .ok (.istore 4, 2) := by decide +kernel
theorem dX7_seen_37 : decode cX7_seen 37 = .ok (.iload 4, 2) := by decide +kernel
theorem dX7_seen_39 : decode cX7_seen 39 = .ok (.ifCond .eq 6, 3) := by decide +kernel
theorem dX7_seen_42 : decode cX7_seen 42 = .ok (.iload 4, 2) := by decide +kernel
theorem dX7_seen_44 : decode cX7_seen 44 = .ok (.ireturn, 1) := by decide +kernel
theorem dX7_seen_45 : decode cX7_seen 45 = .ok (.iload_n 3, 1) := by decide +kernel
theorem dX7_seen_46 : decode cX7_seen 46 = .ok (.ifCond .ne 12, 3) := by decide +kernel
theorem dX7_seen_49 : decode cX7_seen 49 = .ok (.aload_n 0, 1) := by decide +kernel
theorem dX7_seen_50 : decode cX7_seen 50 = .ok (.getfield 38, 3) := by decide +kernel
theorem dX7_seen_53 : decode cX7_seen 53 = .ok (.iload_n 2, 1) := by decide +kernel
theorem dX7_seen_54 : decode cX7_seen 54 = .ok (.iaload, 1) := by decide +kernel
theorem dX7_seen_55 : decode cX7_seen 55 = .ok (.goto 23, 3) := by decide +kernel
theorem dX7_seen_58 : decode cX7_seen 58 = .ok (.iload_n 3, 1) := by decide +kernel
theorem dX7_seen_59 : decode cX7_seen 59 = .ok (.iconst 1, 1) := by decide +kernel
theorem dX7_seen_60 : decode cX7_seen 60 = .ok (.if_icmp .ne 12, 3) := by decide +kernel
theorem dX7_seen_63 : decode cX7_seen 63 = .ok (.aload_n 0, 1) := by decide +kernel
theorem dX7_seen_64 : decode cX7_seen 64 = .ok (.getfield 41, 3) := by decide +kernel
theorem dX7_seen_67 : decode cX7_seen 67 = .ok (.iload_n 2, 1) := by decide +kernel
theorem dX7_seen_68 : decode cX7_seen 68 = .ok (.iaload, 1) := by decide +kernel
theorem dX7_seen_69 : decode cX7_seen 69 = .ok (.goto 9, 3) := by decide +kernel
theorem dX7_seen_72 : decode cX7_seen 72 = .ok (.aload_n 0, 1) := by decide +kernel
theorem dX7_seen_73 : decode cX7_seen 73 = .ok (.getfield 26, 3) := by decide +kernel
theorem dX7_seen_76 : decode cX7_seen 76 = .ok (.iload_n 2, 1) := by decide +kernel
theorem dX7_seen_77 : decode cX7_seen 77 = .ok (.iaload, 1) := by decide +kernel
theorem dX7_seen_78 : decode cX7_seen 78 = .ok (.istore 5, 2) := by decide +kernel
theorem dX7_seen_80 : decode cX7_seen 80 = .ok (.iconst 0, 1) := by decide +kernel
theorem dX7_seen_81 : decode cX7_seen 81 = .ok (.istore 6, 2) := by decide +kernel
theorem dX7_seen_83 : decode cX7_seen 83 = .ok (.iload_n 3, 1) := by decide +kernel
theorem dX7_seen_84 : decode cX7_seen 84 = .ok (.ifCond .ne 14, 3) := by decide +kernel
theorem dX7_seen_87 : decode cX7_seen 87 = .ok (.aload_n 0, 1) := by decide +kernel
theorem dX7_seen_88 : decode cX7_seen 88 = .ok (.getfield 35, 3) := by decide +kernel
theorem dX7_seen_91 : decode cX7_seen 91 = .ok (.iload_n 2, 1) := by decide +kernel
theorem dX7_seen_92 : decode cX7_seen 92 = .ok (.iaload, 1) := by decide +kernel
theorem dX7_seen_93 : decode cX7_seen 93 = .ok (.iconst 1, 1) := by decide +kernel
theorem dX7_seen_94 : decode cX7_seen 94 = .ok (.iadd, 1) := by decide +kernel
theorem dX7_seen_95 : decode cX7_seen 95 = .ok (.goto 4, 3) := by decide +kernel
theorem dX7_seen_98 : decode cX7_seen 98 = .ok (.iconst 0, 1) := by decide +kernel
theorem dX7_seen_99 : decode cX7_seen 99 = .ok (.istore 7, 2) := by decide +kernel
theorem dX7_seen_101 : decode cX7_seen 101 = .ok (.iload 7, 2) := by decide +kernel
theorem dX7_seen_103 : decode cX7_seen 103 = .ok (.iload_n 3, 1) := by decide +kernel
theorem dX7_seen_104 : decode cX7_seen 104 = .ok (.ifCond .ne 8, 3) := by decide +kernel
theorem dX7_seen_107 : decode cX7_seen 107 = .ok (.bipush 10, 2) := by decide +kernel
theorem dX7_seen_109 : decode cX7_seen 109 = .ok (.goto 5, 3) := by decide +kernel
theorem dX7_seen_112 : decode cX7_seen 112 = .ok (.bipush 6, 2) := by decide +kernel
theorem dX7_seen_114 : decode cX7_seen 114 = .ok (.if_icmp .ge 46, 3) := by decide +kernel
theorem dX7_seen_117 : decode cX7_seen 117 = .ok (.aload_n 0, 1) := by decide +kernel
theorem dX7_seen_118 : decode cX7_seen 118 = .ok (.iload_n 2, 1) := by decide +kernel
theorem dX7_seen_119 : decode cX7_seen 119 = .ok (.iload_n 3, 1) := by decide +kernel
theorem dX7_seen_120 : decode cX7_seen 120 = .ok (.iload 7, 2) := by decide +kernel
theorem dX7_seen_122 : decode cX7_seen 122 = .ok (.invokevirtual 338, 3) := by decide +kernel
theorem dX7_seen_125 : decode cX7_seen 125 = .ok (.aload_n 0, 1) := by decide +kernel
theorem dX7_seen_126 : decode cX7_seen 126 = .ok (.aload_n 0, 1) := by decide +kernel
theorem dX7_seen_127 : decode cX7_seen 127 = .ok (.getfield 88, 3) := by decide +kernel
theorem dX7_seen_130 : decode cX7_seen 130 = .ok (.invokevirtual 101, 3) := by decide +kernel
theorem dX7_seen_133 : decode cX7_seen 133 = .ok (.ifCond .ne 21, 3) := by decide +kernel
theorem dX7_seen_136 : decode cX7_seen 136 = .ok (.aload_n 0, 1) := by decide +kernel
theorem dX7_seen_137 : decode cX7_seen 137 = .ok (.iload_n 1, 1) := by decide +kernel
theorem dX7_seen_138 : decode cX7_seen 138 = .ok (.invokevirtual 335, 3) := by decide +kernel
theorem dX7_seen_141 : decode cX7_seen 141 = .ok (.iconst (-1), 1) := by decide +kernel
theorem dX7_seen_142 : decode cX7_seen 142 = .ok (.if_icmp .ne 12, 3) := by decide +kernel
theorem dX7_seen_145 : decode cX7_seen 145 = .ok (.iload 6, 2) := by decide +kernel
theorem dX7_seen_147 : decode cX7_seen 147 = .ok (.iconst 1, 1) := by decide +kernel
theorem dX7_seen_148 : decode cX7_seen 148 = .ok (.iload 7, 2) := by decide +kernel
theorem dX7_seen_150 : decode cX7_seen 150 = .ok (.ishl, 1) := by decide +kernel
theorem dX7_seen_151 : decode cX7_seen 151 = .ok (.ior, 1) := by decide +kernel
theorem dX7_seen_152 : decode cX7_seen 152 = .ok (.istore 6, 2) := by decide +kernel
theorem dX7_seen_154 : decode cX7_seen 154 = .ok (.iinc 7 1, 3) := by decide +kernel
theorem dX7_seen_157 : decode cX7_seen 157 = .ok (.goto (-56), 3) := by decide +kernel
theorem dX7_seen_160 : decode cX7_seen 160 = .ok (.aload_n 0, 1) := by decide +kernel
theorem dX7_seen_161 : decode cX7_seen 161 = .ok (.iload_n 2, 1) := by decide +kernel
theorem dX7_seen_162 : decode cX7_seen 162 = .ok (.iload_n 3, 1) := by decide +kernel
theorem dX7_seen_163 : decode cX7_seen 163 = .ok (.iload 5, 2) := by decide +kernel
theorem dX7_seen_165 : decode cX7_seen 165 = .ok (.invokevirtual 338, 3) := by decide +kernel
theorem dX7_seen_168 : decode cX7_seen 168 = .ok (.iload 6, 2) := by decide +kernel
theorem dX7_seen_170 : decode cX7_seen 170 = .ok (.ireturn, 1) := by decide +kernel
theorem dX7_set_0 : decode cX7_set 0 = .ok (.iload_n 1, 1) := by decide +kernel
theorem dX7_set_1 : decode cX7_set 1 = .ok (.i2l, 1) := by decide +kernel
theorem dX7_set_2 : decode cX7_set 2 = .ok (.lconst 0, 1) := by decide +kernel
theorem dX7_set_3 : decode cX7_set 3 = .ok (.ldc2_w 95, 3) := by decide +kernel
theorem dX7_set_6 : decode cX7_set 6 = .ok (.invokestatic 91, 3) := by decide +kernel
theorem dX7_set_9 : decode cX7_set 9 = .ok (.ifCond .eq 15, 3) := by decide +kernel
theorem dX7_set_12 : decode cX7_set 12 = .ok (.iload_n 1, 1) := by decide +kernel
theorem dX7_set_13 : decode cX7_set 13 = .ok (.ifCond .le 14, 3) := by decide +kernel
theorem dX7_set_16 : decode cX7_set 16 = .ok (.aload_n 0, 1) := by decide +kernel
theorem dX7_set_17 : decode cX7_set 17 = .ok (.iload_n 2, 1) := by decide +kernel
theorem dX7_set_18 : decode cX7_set 18 = .ok (.invokevirtual 105, 3) := by decide +kernel
theorem dX7_set_21 : decode cX7_set 21 = .ok (.ifCond .ne 6, 3) := by decide +kernel
theorem dX7_set_24 : decode cX7_set 24 = .ok (.bipush (-2), 2) := by decide +kernel
theorem dX7_set_26 : decode cX7_set 26 = .ok (.ireturn, 1) := by decide +kernel
theorem dX7_set_27 : decode cX7_set 27 = .ok (.iload_n 1, 1) := by decide +kernel
theorem dX7_set_28 : decode cX7_set 28 = .ok (.ifCond .ne 7, 3) := by decide +kernel
theorem dX7_set_31 : decode cX7_set 31 = .ok (.iconst 1, 1) := by decide +kernel
theorem dX7_set_32 : decode cX7_set 32 = .ok (.goto 20, 3) := by decide +kernel
theorem dX7_set_35 : decode cX7_set 35 = .ok (.iload_n 1, 1) := by decide +kernel
theorem dX7_set_36 : decode cX7_set 36 = .ok (.iconst 3, 1) := by decide +kernel
theorem dX7_set_37 : decode cX7_set 37 = .ok (.if_icmp .ne 14, 3) := by decide +kernel
theorem dX7_set_40 : decode cX7_set 40 = .ok (.aload_n 0, 1) := by decide +kernel
theorem dX7_set_41 : decode cX7_set 41 = .ok (.getfield 35, 3) := by decide +kernel
theorem dX7_set_44 : decode cX7_set 44 = .ok (.iload_n 2, 1) := by decide +kernel
theorem dX7_set_45 : decode cX7_set 45 = .ok (.iaload, 1) := by decide +kernel
theorem dX7_set_46 : decode cX7_set 46 = .ok (.iconst 1, 1) := by decide +kernel
theorem dX7_set_47 : decode cX7_set 47 = .ok (.iadd, 1) := by decide +kernel
theorem dX7_set_48 : decode cX7_set 48 = .ok (.goto 4, 3) := by decide +kernel
theorem dX7_set_51 : decode cX7_set 51 = .ok (.iconst 0, 1) := by decide +kernel
theorem dX7_set_52 : decode cX7_set 52 = .ok (.istore 4, 2) := by decide +kernel
theorem dX7_set_54 : decode cX7_set 54 = .ok (.iload_n 3, 1) := by decide +kernel
theorem dX7_set_55 : decode cX7_set 55 = .ok (.i2l, 1) := by decide +kernel
theorem dX7_set_56 : decode cX7_set 56 = .ok (.iload 4, 2) := by decide +kernel
theorem dX7_set_58 : decode cX7_set 58 = .ok (.i2l, 1) := by decide +kernel
theorem dX7_set_59 : decode cX7_set 59 = .ok (.iload_n 1, 1) := by decide +kernel
theorem dX7_set_60 : decode cX7_set 60 = .ok (.ifCond .ne 9, 3) := by decide +kernel
theorem dX7_set_63 : decode cX7_set 63 = .ok (.ldc2_w 108, 3) := by decide +kernel
theorem dX7_set_66 : decode cX7_set 66 = .ok (.goto 28, 3) := by decide +kernel
theorem dX7_set_69 : decode cX7_set 69 = .ok (.iload_n 1, 1) := by decide +kernel
theorem dX7_set_70 : decode cX7_set 70 = .ok (.iconst 4, 1) := by decide +kernel
theorem dX7_set_71 : decode cX7_set 71 = .ok (.if_icmp .ne 9, 3) := by decide +kernel
theorem dX7_set_74 : decode cX7_set 74 = .ok (.ldc2_w 95, 3) := by decide +kernel
theorem dX7_set_77 : decode cX7_set 77 = .ok (.goto 17, 3) := by decide +kernel
theorem dX7_set_80 : decode cX7_set 80 = .ok (.iload_n 1, 1) := by decide +kernel
theorem dX7_set_81 : decode cX7_set 81 = .ok (.iconst 5, 1) := by decide +kernel
theorem dX7_set_82 : decode cX7_set 82 = .ok (.if_icmp .ne 9, 3) := by decide +kernel
theorem dX7_set_85 : decode cX7_set 85 = .ok (.ldc2_w 110, 3) := by decide +kernel
theorem dX7_set_88 : decode cX7_set 88 = .ok (.goto 6, 3) := by decide +kernel
theorem dX7_set_91 : decode cX7_set 91 = .ok (.ldc2_w 112, 3) := by decide +kernel
theorem dX7_set_94 : decode cX7_set 94 = .ok (.invokestatic 91, 3) := by decide +kernel
theorem dX7_set_97 : decode cX7_set 97 = .ok (.ifCond .ne 6, 3) := by decide +kernel
theorem dX7_set_100 : decode cX7_set 100 = .ok (.bipush (-2), 2) := by decide +kernel
theorem dX7_set_102 : decode cX7_set 102 = .ok (.ireturn, 1) := by decide +kernel
theorem dX7_set_103 : decode cX7_set 103 = .ok (.iload_n 1, 1) := by decide +kernel
theorem dX7_set_104 : decode cX7_set 104 = .ok (.ifCond .ne 10, 3) := by decide +kernel
theorem dX7_set_107 : decode cX7_set 107 = .ok (.aload_n 0, 1) := by decide +kernel
theorem dX7_set_108 : decode cX7_set 108 = .ok (.getfield 23, 3) := by decide +kernel
theorem dX7_set_111 : decode cX7_set 111 = .ok (.goto 9, 3) := by decide +kernel
theorem dX7_set_114 : decode cX7_set 114 = .ok (.aload_n 0, 1) := by decide +kernel
theorem dX7_set_115 : decode cX7_set 115 = .ok (.iload_n 2, 1) := by decide +kernel
theorem dX7_set_116 : decode cX7_set 116 = .ok (.iload_n 1, 1) := by decide +kernel
theorem dX7_set_117 : decode cX7_set 117 = .ok (.invokevirtual 114, 3) := by decide +kernel
theorem dX7_set_120 : decode cX7_set 120 = .ok (.istore 5, 2) := by decide +kernel
theorem dX7_set_122 : decode cX7_set 122 = .ok (.iload_n 1, 1) := by decide +kernel
theorem dX7_set_123 : decode cX7_set 123 = .ok (.ifCond .ne 11, 3) := by decide +kernel
theorem dX7_set_126 : decode cX7_set 126 = .ok (.aload_n 0, 1) := by decide +kernel
theorem dX7_set_127 : decode cX7_set 127 = .ok (.iload_n 3, 1) := by decide +kernel
theorem dX7_set_128 : decode cX7_set 128 = .ok (.putfield 23, 3) := by decide +kernel
theorem dX7_set_131 : decode cX7_set 131 = .ok (.goto 77, 3) := by decide +kernel
theorem dX7_set_134 : decode cX7_set 134 = .ok (.iload_n 1, 1) := by decide +kernel
theorem dX7_set_135 : decode cX7_set 135 = .ok (.iconst 1, 1) := by decide +kernel
theorem dX7_set_136 : decode cX7_set 136 = .ok (.if_icmp .ne 13, 3) := by decide +kernel
theorem dX7_set_139 : decode cX7_set 139 = .ok (.aload_n 0, 1) := by decide +kernel
theorem dX7_set_140 : decode cX7_set 140 = .ok (.getfield 29, 3) := by decide +kernel
theorem dX7_set_143 : decode cX7_set 143 = .ok (.iload_n 2, 1) := by decide +kernel
theorem dX7_set_144 : decode cX7_set 144 = .ok (.iload_n 3, 1) := by decide +kernel
theorem dX7_set_145 : decode cX7_set 145 = .ok (.iastore, 1) := by decide +kernel
theorem dX7_set_146 : decode cX7_set 146 = .ok (.goto 62, 3) := by decide +kernel
theorem dX7_set_149 : decode cX7_set 149 = .ok (.iload_n 1, 1) := by decide +kernel
theorem dX7_set_150 : decode cX7_set 150 = .ok (.iconst 2, 1) := by decide +kernel
theorem dX7_set_151 : decode cX7_set 151 = .ok (.if_icmp .ne 13, 3) := by decide +kernel
theorem dX7_set_154 : decode cX7_set 154 = .ok (.aload_n 0, 1) := by decide +kernel
theorem dX7_set_155 : decode cX7_set 155 = .ok (.getfield 32, 3) := by decide +kernel
theorem dX7_set_158 : decode cX7_set 158 = .ok (.iload_n 2, 1) := by decide +kernel
theorem dX7_set_159 : decode cX7_set 159 = .ok (.iload_n 3, 1) := by decide +kernel
theorem dX7_set_160 : decode cX7_set 160 = .ok (.iastore, 1) := by decide +kernel
theorem dX7_set_161 : decode cX7_set 161 = .ok (.goto 47, 3) := by decide +kernel
theorem dX7_set_164 : decode cX7_set 164 = .ok (.iload_n 1, 1) := by decide +kernel
theorem dX7_set_165 : decode cX7_set 165 = .ok (.iconst 5, 1) := by decide +kernel
theorem dX7_set_166 : decode cX7_set 166 = .ok (.if_icmp .ne 13, 3) := by decide +kernel
theorem dX7_set_169 : decode cX7_set 169 = .ok (.aload_n 0, 1) := by decide +kernel
theorem dX7_set_170 : decode cX7_set 170 = .ok (.getfield 44, 3) := by decide +kernel
theorem dX7_set_173 : decode cX7_set 173 = .ok (.iload_n 2, 1) := by decide +kernel
theorem dX7_set_174 : decode cX7_set 174 = .ok (.iload_n 3, 1) := by decide +kernel
theorem dX7_set_175 : decode cX7_set 175 = .ok (.iastore, 1) := by decide +kernel
theorem dX7_set_176 : decode cX7_set 176 = .ok (.goto 32, 3) := by decide +kernel
theorem dX7_set_179 : decode cX7_set 179 = .ok (.aload_n 0, 1) := by decide +kernel
theorem dX7_set_180 : decode cX7_set 180 = .ok (.iload_n 2, 1) := by decide +kernel
theorem dX7_set_181 : decode cX7_set 181 = .ok (.iload_n 1, 1) := by decide +kernel
theorem dX7_set_182 : decode cX7_set 182 = .ok (.iload_n 3, 1) := by decide +kernel
theorem dX7_set_183 : decode cX7_set 183 = .ok (.invokevirtual 118, 3) := by decide +kernel
theorem dX7_set_186 : decode cX7_set 186 = .ok (.aload_n 0, 1) := by decide +kernel
theorem dX7_set_187 : decode cX7_set 187 = .ok (.aload_n 0, 1) := by decide +kernel
theorem dX7_set_188 : decode cX7_set 188 = .ok (.getfield 88, 3) := by decide +kernel
theorem dX7_set_191 : decode cX7_set 191 = .ok (.invokevirtual 101, 3) := by decide +kernel
theorem dX7_set_194 : decode cX7_set 194 = .ok (.ifCond .eq 14, 3) := by decide +kernel
theorem dX7_set_197 : decode cX7_set 197 = .ok (.aload_n 0, 1) := by decide +kernel
theorem dX7_set_198 : decode cX7_set 198 = .ok (.iload_n 2, 1) := by decide +kernel
theorem dX7_set_199 : decode cX7_set 199 = .ok (.iload_n 1, 1) := by decide +kernel
theorem dX7_set_200 : decode cX7_set 200 = .ok (.iload 5, 2) := by decide +kernel
theorem dX7_set_202 : decode cX7_set 202 = .ok (.invokevirtual 118, 3) := by decide +kernel
theorem dX7_set_205 : decode cX7_set 205 = .ok (.bipush (-3), 2) := by decide +kernel
theorem dX7_set_207 : decode cX7_set 207 = .ok (.ireturn, 1) := by decide +kernel
theorem dX7_set_208 : decode cX7_set 208 = .ok (.iload 5, 2) := by decide +kernel
theorem dX7_set_210 : decode cX7_set 210 = .ok (.ireturn, 1) := by decide +kernel
theorem dX7_sheet_0 : decode cX7_sheet 0 = .ok (.iload_n 1, 1) := by decide +kernel
theorem dX7_sheet_1 : decode cX7_sheet 1 = .ok (.invokestatic 329, 3) := by decide +kernel
theorem dX7_sheet_4 : decode cX7_sheet 4 = .ok (.ifCond .eq 27, 3) := by decide +kernel
theorem dX7_sheet_7 : decode cX7_sheet 7 = .ok (.iload_n 2, 1) := by decide +kernel
theorem dX7_sheet_8 : decode cX7_sheet 8 = .ok (.i2l, 1) := by decide +kernel
theorem dX7_sheet_9 : decode cX7_sheet 9 = .ok (.ldc2_w 360, 3) := by decide +kernel
theorem dX7_sheet_12 : decode cX7_sheet 12 = .ok (.ldc2_w 108, 3) := by decide +kernel
theorem dX7_sheet_15 : decode cX7_sheet 15 = .ok (.invokestatic 91, 3) := by decide +kernel
theorem dX7_sheet_18 : decode cX7_sheet 18 = .ok (.ifCond .eq 13, 3) := by decide +kernel
theorem dX7_sheet_21 : decode cX7_sheet 21 = .ok (.iload_n 2, 1) := by decide +kernel
theorem dX7_sheet_22 : decode cX7_sheet 22 = .ok (.ifCond .lt 12, 3) := by decide +kernel
theorem dX7_sheet_25 : decode cX7_sheet 25 = .ok (.iload_n 3, 1) := by decide +kernel
theorem dX7_sheet_26 : decode cX7_sheet 26 = .ok (.bipush 40, 2) := by decide +kernel
theorem dX7_sheet_28 : decode cX7_sheet 28 = .ok (.if_icmp .le 6, 3) := by decide +kernel
theorem dX7_sheet_31 : decode cX7_sheet 31 = .ok (.bipush (-2), 2) := by decide +kernel
theorem dX7_sheet_33 : decode cX7_sheet 33 = .ok (.ireturn, 1) := by decide +kernel
theorem dX7_sheet_34 : decode cX7_sheet 34 = .ok (.iload_n 2, 1) := by decide +kernel
theorem dX7_sheet_35 : decode cX7_sheet 35 = .ok (.ifCond .lt 10, 3) := by decide +kernel
theorem dX7_sheet_38 : decode cX7_sheet 38 = .ok (.iload_n 3, 1) := by decide +kernel
theorem dX7_sheet_39 : decode cX7_sheet 39 = .ok (.ifCond .ge 6, 3) := by decide +kernel
theorem dX7_sheet_42 : decode cX7_sheet 42 = .ok (.bipush (-14), 2) := by decide +kernel
theorem dX7_sheet_44 : decode cX7_sheet 44 = .ok (.ireturn, 1) := by decide +kernel
theorem dX7_sheet_45 : decode cX7_sheet 45 = .ok (.aload_n 0, 1) := by decide +kernel
theorem dX7_sheet_46 : decode cX7_sheet 46 = .ok (.getfield 68, 3) := by decide +kernel
theorem dX7_sheet_49 : decode cX7_sheet 49 = .ok (.iload_n 1, 1) := by decide +kernel
theorem dX7_sheet_50 : decode cX7_sheet 50 = .ok (.iload_n 2, 1) := by decide +kernel
theorem dX7_sheet_51 : decode cX7_sheet 51 = .ok (.ifCond .lt 7, 3) := by decide +kernel
theorem dX7_sheet_54 : decode cX7_sheet 54 = .ok (.iconst 1, 1) := by decide +kernel
theorem dX7_sheet_55 : decode cX7_sheet 55 = .ok (.goto 4, 3) := by decide +kernel
theorem dX7_sheet_58 : decode cX7_sheet 58 = .ok (.iconst 0, 1) := by decide +kernel
theorem dX7_sheet_59 : decode cX7_sheet 59 = .ok (.bastore, 1) := by decide +kernel
theorem dX7_sheet_60 : decode cX7_sheet 60 = .ok (.aload_n 0, 1) := by decide +kernel
theorem dX7_sheet_61 : decode cX7_sheet 61 = .ok (.getfield 72, 3) := by decide +kernel
theorem dX7_sheet_64 : decode cX7_sheet 64 = .ok (.iload_n 1, 1) := by decide +kernel
theorem dX7_sheet_65 : decode cX7_sheet 65 = .ok (.iload_n 2, 1) := by decide +kernel
theorem dX7_sheet_66 : decode cX7_sheet 66 = .ok (.iastore, 1) := by decide +kernel
theorem dX7_sheet_67 : decode cX7_sheet 67 = .ok (.aload_n 0, 1) := by decide +kernel
theorem dX7_sheet_68 : decode cX7_sheet 68 = .ok (.getfield 75, 3) := by decide +kernel
theorem dX7_sheet_71 : decode cX7_sheet 71 = .ok (.iload_n 1, 1) := by decide +kernel
theorem dX7_sheet_72 : decode cX7_sheet 72 = .ok (.iload_n 3, 1) := by decide +kernel
theorem dX7_sheet_73 : decode cX7_sheet 73 = .ok (.iastore, 1) := by decide +kernel
theorem dX7_sheet_74 : decode cX7_sheet 74 = .ok (.iconst 0, 1) := by decide +kernel
theorem dX7_sheet_75 : decode cX7_sheet 75 = .ok (.istore 4, 2) := by decide +kernel
theorem dX7_sheet_77 : decode cX7_sheet 77 = .ok (.iload 4, 2) := by decide +kernel
theorem dX7_sheet_79 : decode cX7_sheet 79 = .ok (.iload_n 3, 1) := by decide +kernel
theorem dX7_sheet_80 : decode cX7_sheet 80 = .ok (.if_icmp .ge 26, 3) := by decide +kernel
theorem dX7_sheet_83 : decode cX7_sheet 83 = .ok (.iload_n 2, 1) := by decide +kernel
theorem dX7_sheet_84 : decode cX7_sheet 84 = .ok (.ifCond .lt 22, 3) := by decide +kernel
theorem dX7_sheet_87 : decode cX7_sheet 87 = .ok (.aload_n 0, 1) := by decide +kernel
theorem dX7_sheet_88 : decode cX7_sheet 88 = .ok (.getfield 78, 3) := by decide +kernel
theorem dX7_sheet_91 : decode cX7_sheet 91 = .ok (.bipush 40, 2) := by decide +kernel
theorem dX7_sheet_93 : decode cX7_sheet 93 = .ok (.iload_n 1, 1) := by decide +kernel
theorem dX7_sheet_94 : decode cX7_sheet 94 = .ok (.imul, 1) := by decide +kernel
theorem dX7_sheet_95 : decode cX7_sheet 95 = .ok (.iload 4, 2) := by decide +kernel
theorem dX7_sheet_97 : decode cX7_sheet 97 = .ok (.iadd, 1) := by decide +kernel
theorem dX7_sheet_98 : decode cX7_sheet 98 = .ok (.iconst 0, 1) := by decide +kernel
theorem dX7_sheet_99 : decode cX7_sheet 99 = .ok (.iastore, 1) := by decide +kernel
theorem dX7_sheet_100 : decode cX7_sheet 100 = .ok (.iinc 4 1, 3) := by decide +kernel
theorem dX7_sheet_103 : decode cX7_sheet 103 = .ok (.goto (-26), 3) := by decide +kernel
theorem dX7_sheet_106 : decode cX7_sheet 106 = .ok (.iconst 1, 1) := by decide +kernel
theorem dX7_sheet_107 : decode cX7_sheet 107 = .ok (.ireturn, 1) := by decide +kernel
theorem dX7_spell_0 : decode cX7_spell 0 = .ok (.aload_n 0, 1) := by decide +kernel
theorem dX7_spell_1 : decode cX7_spell 1 = .ok (.getfield 13, 3) := by decide +kernel
theorem dX7_spell_4 : decode cX7_spell 4 = .ok (.iload_n 1, 1) := by decide +kernel
theorem dX7_spell_5 : decode cX7_spell 5 = .ok (.iload_n 2, 1) := by decide +kernel
theorem dX7_spell_6 : decode cX7_spell 6 = .ok (.iastore, 1) := by decide +kernel
theorem dX7_spell_7 : decode cX7_spell 7 = .ok (.aload_n 0, 1) := by decide +kernel
theorem dX7_spell_8 : decode cX7_spell 8 = .ok (.getfield 13, 3) := by decide +kernel
theorem dX7_spell_11 : decode cX7_spell 11 = .ok (.iload_n 1, 1) := by decide +kernel
theorem dX7_spell_12 : decode cX7_spell 12 = .ok (.iconst 1, 1) := by decide +kernel
theorem dX7_spell_13 : decode cX7_spell 13 = .ok (.iadd, 1) := by decide +kernel
theorem dX7_spell_14 : decode cX7_spell 14 = .ok (.iload_n 3, 1) := by decide +kernel
theorem dX7_spell_15 : decode cX7_spell 15 = .ok (.iastore, 1) := by decide +kernel
theorem dX7_spell_16 : decode cX7_spell 16 = .ok (.aload_n 0, 1) := by decide +kernel
theorem dX7_spell_17 : decode cX7_spell 17 = .ok (.getfield 13, 3) := by decide +kernel
theorem dX7_spell_20 : decode cX7_spell 20 = .ok (.iload_n 1, 1) := by decide +kernel
theorem dX7_spell_21 : decode cX7_spell 21 = .ok (.iconst 2, 1) := by decide +kernel
theorem dX7_spell_22 : decode cX7_spell 22 = .ok (.iadd, 1) := by decide +kernel
theorem dX7_spell_23 : decode cX7_spell 23 = .ok (.iload 4, 2) := by decide +kernel
theorem dX7_spell_25 : decode cX7_spell 25 = .ok (.iastore, 1) := by decide +kernel
theorem dX7_spell_26 : decode cX7_spell 26 = .ok (.aload_n 0, 1) := by decide +kernel
theorem dX7_spell_27 : decode cX7_spell 27 = .ok (.getfield 13, 3) := by decide +kernel
theorem dX7_spell_30 : decode cX7_spell 30 = .ok (.iload_n 1, 1) := by decide +kernel
theorem dX7_spell_31 : decode cX7_spell 31 = .ok (.iconst 3, 1) := by decide +kernel
theorem dX7_spell_32 : decode cX7_spell 32 = .ok (.iadd, 1) := by decide +kernel
theorem dX7_spell_33 : decode cX7_spell 33 = .ok (.iload 5, 2) := by decide +kernel
theorem dX7_spell_35 : decode cX7_spell 35 = .ok (.iastore, 1) := by decide +kernel
theorem dX7_spell_36 : decode cX7_spell 36 = .ok (.aload_n 0, 1) := by decide +kernel
theorem dX7_spell_37 : decode cX7_spell 37 = .ok (.getfield 13, 3) := by decide +kernel
theorem dX7_spell_40 : decode cX7_spell 40 = .ok (.iload_n 1, 1) := by decide +kernel
theorem dX7_spell_41 : decode cX7_spell 41 = .ok (.iconst 4, 1) := by decide +kernel
theorem dX7_spell_42 : decode cX7_spell 42 = .ok (.iadd, 1) := by decide +kernel
theorem dX7_spell_43 : decode cX7_spell 43 = .ok (.iload 6, 2) := by decide +kernel
theorem dX7_spell_45 : decode cX7_spell 45 = .ok (.iastore, 1) := by decide +kernel
theorem dX7_spell_46 : decode cX7_spell 46 = .ok (.aload_n 0, 1) := by decide +kernel
theorem dX7_spell_47 : decode cX7_spell 47 = .ok (.getfield 13, 3) := by decide +kernel
theorem dX7_spell_50 : decode cX7_spell 50 = .ok (.iload_n 1, 1) := by decide +kernel
theorem dX7_spell_51 : decode cX7_spell 51 = .ok (.iconst 5, 1) := by decide +kernel
theorem dX7_spell_52 : decode cX7_spell 52 = .ok (.iadd, 1) := by decide +kernel
theorem dX7_spell_53 : decode cX7_spell 53 = .ok (.iload 7, 2) := by decide +kernel
theorem dX7_spell_55 : decode cX7_spell 55 = .ok (.iastore, 1) := by decide +kernel
theorem dX7_spell_56 : decode cX7_spell 56 = .ok (.aload_n 0, 1) := by decide +kernel
theorem dX7_spell_57 : decode cX7_spell 57 = .ok (.getfield 13, 3) := by decide +kernel
theorem dX7_spell_60 : decode cX7_spell 60 = .ok (.iload_n 1, 1) := by decide +kernel
theorem dX7_spell_61 : decode cX7_spell 61 = .ok (.bipush 6, 2) := by decide +kernel
theorem dX7_spell_63 : decode cX7_spell 63 = .ok (.iadd, 1) := by decide +kernel
theorem dX7_spell_64 : decode cX7_spell 64 = .ok (.iload 8, 2) := by decide +kernel
theorem dX7_spell_66 : decode cX7_spell 66 = .ok (.iastore, 1) := by decide +kernel
theorem dX7_spell_67 : decode cX7_spell 67 = .ok (.aload_n 0, 1) := by decide +kernel
theorem dX7_spell_68 : decode cX7_spell 68 = .ok (.getfield 13, 3) := by decide +kernel
theorem dX7_spell_71 : decode cX7_spell 71 = .ok (.iload_n 1, 1) := by decide +kernel
theorem dX7_spell_72 : decode cX7_spell 72 = .ok (.bipush 7, 2) := by decide +kernel
theorem dX7_spell_74 : decode cX7_spell 74 = .ok (.iadd, 1) := by decide +kernel
theorem dX7_spell_75 : decode cX7_spell 75 = .ok (.iload 9, 2) := by decide +kernel
theorem dX7_spell_77 : decode cX7_spell 77 = .ok (.iastore, 1) := by decide +kernel
theorem dX7_spell_78 : decode cX7_spell 78 = .ok (.return_, 1) := by decide +kernel
theorem dX7_stand_0 : decode cX7_stand 0 = .ok (.iload_n 1, 1) := by decide +kernel
theorem dX7_stand_1 : decode cX7_stand 1 = .ok (.iconst (-1), 1) := by decide +kernel
theorem dX7_stand_2 : decode cX7_stand 2 = .ok (.if_icmp .eq 14, 3) := by decide +kernel
theorem dX7_stand_5 : decode cX7_stand 5 = .ok (.aload_n 0, 1) := by decide +kernel
theorem dX7_stand_6 : decode cX7_stand 6 = .ok (.iload_n 1, 1) := by decide +kernel
theorem dX7_stand_7 : decode cX7_stand 7 = .ok (.invokevirtual 105, 3) := by decide +kernel
theorem dX7_stand_10 : decode cX7_stand 10 = .ok (.ifCond .ne 6, 3) := by decide +kernel
theorem dX7_stand_13 : decode cX7_stand 13 = .ok (.bipush (-100), 2) := by decide +kernel
theorem dX7_stand_15 : decode cX7_stand 15 = .ok (.ireturn, 1) := by decide +kernel
theorem dX7_stand_16 : decode cX7_stand 16 = .ok (.aload_n 0, 1) := by decide +kernel
theorem dX7_stand_17 : decode cX7_stand 17 = .ok (.invokevirtual 319, 3) := by decide +kernel
theorem dX7_stand_20 : decode cX7_stand 20 = .ok (.iload_n 1, 1) := by decide +kernel
theorem dX7_stand_21 : decode cX7_stand 21 = .ok (.iconst (-1), 1) := by decide +kernel
theorem dX7_stand_22 : decode cX7_stand 22 = .ok (.if_icmp .ne 10, 3) := by decide +kernel
theorem dX7_stand_25 : decode cX7_stand 25 = .ok (.aload_n 0, 1) := by decide +kernel
theorem dX7_stand_26 : decode cX7_stand 26 = .ok (.getfield 307, 3) := by decide +kernel
theorem dX7_stand_29 : decode cX7_stand 29 = .ok (.goto 9, 3) := by decide +kernel
theorem dX7_stand_32 : decode cX7_stand 32 = .ok (.aload_n 0, 1) := by decide +kernel
theorem dX7_stand_33 : decode cX7_stand 33 = .ok (.getfield 59, 3) := by decide +kernel
theorem dX7_stand_36 : decode cX7_stand 36 = .ok (.iload_n 1, 1) := by decide +kernel
theorem dX7_stand_37 : decode cX7_stand 37 = .ok (.iaload, 1) := by decide +kernel
theorem dX7_stand_38 : decode cX7_stand 38 = .ok (.ireturn, 1) := by decide +kernel
theorem dX7_stands_0 : decode cX7_stands 0 = .ok (.aload_n 0, 1) := by decide +kernel
theorem dX7_stands_1 : decode cX7_stands 1 = .ok (.invokevirtual 319, 3) := by decide +kernel
theorem dX7_stands_4 : decode cX7_stands 4 = .ok (.iconst 0, 1) := by decide +kernel
theorem dX7_stands_5 : decode cX7_stands 5 = .ok (.istore_n 1, 1) := by decide +kernel
theorem dX7_stands_6 : decode cX7_stands 6 = .ok (.iconst 0, 1) := by decide +kernel
theorem dX7_stands_7 : decode cX7_stands 7 = .ok (.istore_n 2, 1) := by decide +kernel
theorem dX7_stands_8 : decode cX7_stands 8 = .ok (.iload_n 2, 1) := by decide +kernel
theorem dX7_stands_9 : decode cX7_stands 9 = .ok (.aload_n 0, 1) := by decide +kernel
theorem dX7_stands_10 : decode cX7_stands 10 = .ok (.getfield 88, 3) := by decide +kernel
theorem dX7_stands_13 : decode cX7_stands 13 = .ok (.if_icmp .ge 44, 3) := by decide +kernel
theorem dX7_stands_16 : decode cX7_stands 16 = .ok (.iload_n 1, 1) := by decide +kernel
theorem dX7_stands_17 : decode cX7_stands 17 = .ok (.aload_n 0, 1) := by decide +kernel
theorem dX7_stands_18 : decode cX7_stands 18 = .ok (.getfield 41, 3) := by decide +kernel
theorem dX7_stands_21 : decode cX7_stands 21 = .ok (.iload_n 2, 1) := by decide +kernel
theorem dX7_stands_22 : decode cX7_stands 22 = .ok (.iaload, 1) := by decide +kernel
theorem dX7_stands_23 : decode cX7_stands 23 = .ok (.aload_n 0, 1) := by decide +kernel
theorem dX7_stands_24 : decode cX7_stands 24 = .ok (.getfield 59, 3) := by decide +kernel
theorem dX7_stands_27 : decode cX7_stands 27 = .ok (.iload_n 2, 1) := by decide +kernel
theorem dX7_stands_28 : decode cX7_stands 28 = .ok (.iaload, 1) := by decide +kernel
theorem dX7_stands_29 : decode cX7_stands 29 = .ok (.if_icmp .eq 7, 3) := by decide +kernel
theorem dX7_stands_32 : decode cX7_stands 32 = .ok (.iconst 1, 1) := by decide +kernel
theorem dX7_stands_33 : decode cX7_stands 33 = .ok (.goto 4, 3) := by decide +kernel
theorem dX7_stands_36 : decode cX7_stands 36 = .ok (.iconst 0, 1) := by decide +kernel
theorem dX7_stands_37 : decode cX7_stands 37 = .ok (.iadd, 1) := by decide +kernel
theorem dX7_stands_38 : decode cX7_stands 38 = .ok (.istore_n 1, 1) := by decide +kernel
theorem dX7_stands_39 : decode cX7_stands 39 = .ok (.aload_n 0, 1) := by decide +kernel
theorem dX7_stands_40 : decode cX7_stands 40 = .ok (.getfield 41, 3) := by decide +kernel
theorem dX7_stands_43 : decode cX7_stands 43 = .ok (.iload_n 2, 1) := by decide +kernel
theorem dX7_stands_44 : decode cX7_stands 44 = .ok (.aload_n 0, 1) := by decide +kernel
theorem dX7_stands_45 : decode cX7_stands 45 = .ok (.getfield 59, 3) := by decide +kernel
theorem dX7_stands_48 : decode cX7_stands 48 = .ok (.iload_n 2, 1) := by decide +kernel
theorem dX7_stands_49 : decode cX7_stands 49 = .ok (.iaload, 1) := by decide +kernel
theorem dX7_stands_50 : decode cX7_stands 50 = .ok (.iastore, 1) := by decide +kernel
theorem dX7_stands_51 : decode cX7_stands 51 = .ok (.iinc 2 1, 3) := by decide +kernel
theorem dX7_stands_54 : decode cX7_stands 54 = .ok (.goto (-46), 3) := by decide +kernel
theorem dX7_stands_57 : decode cX7_stands 57 = .ok (.iload_n 1, 1) := by decide +kernel
theorem dX7_stands_58 : decode cX7_stands 58 = .ok (.ireturn, 1) := by decide +kernel
theorem dX7_stayingAt_0 : decode cX7_stayingAt 0 = .ok (.iconst 0, 1) := by decide +kernel
theorem dX7_stayingAt_1 : decode cX7_stayingAt 1 = .ok (.istore_n 2, 1) := by decide +kernel
theorem dX7_stayingAt_2 : decode cX7_stayingAt 2 = .ok (.iconst 0, 1) := by decide +kernel
theorem dX7_stayingAt_3 : decode cX7_stayingAt 3 = .ok (.istore_n 3, 1) := by decide +kernel
theorem dX7_stayingAt_4 : decode cX7_stayingAt 4 = .ok (.iload_n 3, 1) := by decide +kernel
theorem dX7_stayingAt_5 : decode cX7_stayingAt 5 = .ok (.aload_n 0, 1) := by decide +kernel
theorem dX7_stayingAt_6 : decode cX7_stayingAt 6 = .ok (.getfield 88, 3) := by decide +kernel
theorem dX7_stayingAt_9 : decode cX7_stayingAt 9 = .ok (.if_icmp .ge 51, 3) := by decide +kernel
theorem dX7_stayingAt_12 : decode cX7_stayingAt 12 = .ok (.iload_n 2, 1) := by decide +kernel
theorem dX7_stayingAt_13 : decode cX7_stayingAt 13 = .ok (.aload_n 0, 1) := by decide +kernel
theorem dX7_stayingAt_14 : decode cX7_stayingAt 14 = .ok (.getfield 254, 3) := by decide +kernel
theorem dX7_stayingAt_17 : decode cX7_stayingAt 17 = .ok (.iload_n 3, 1) := by decide +kernel
theorem dX7_stayingAt_18 : decode cX7_stayingAt 18 = .ok (.ishr, 1) := by decide +kernel
theorem dX7_stayingAt_19 : decode cX7_stayingAt 19 = .ok (.iconst 1, 1) := by decide +kernel
theorem dX7_stayingAt_20 : decode cX7_stayingAt 20 = .ok (.iand, 1) := by decide +kernel
theorem dX7_stayingAt_21 : decode cX7_stayingAt 21 = .ok (.iconst 1, 1) := by decide +kernel
theorem dX7_stayingAt_22 : decode cX7_stayingAt 22 = .ok (.if_icmp .ne 27, 3) := by decide +kernel
theorem dX7_stayingAt_25 : decode cX7_stayingAt 25 = .ok (.aload_n 0, 1) := by decide +kernel
theorem dX7_stayingAt_26 : decode cX7_stayingAt 26 = .ok (.getfield 35, 3) := by decide +kernel
theorem dX7_stayingAt_29 : decode cX7_stayingAt 29 = .ok (.iload_n 3, 1) := by decide +kernel
theorem dX7_stayingAt_30 : decode cX7_stayingAt 30 = .ok (.iaload, 1) := by decide +kernel
theorem dX7_stayingAt_31 : decode cX7_stayingAt 31 = .ok (.iload_n 1, 1) := by decide +kernel
theorem dX7_stayingAt_32 : decode cX7_stayingAt 32 = .ok (.if_icmp .ge 17, 3) := by decide +kernel
theorem dX7_stayingAt_35 : decode cX7_stayingAt 35 = .ok (.aload_n 0, 1) := by decide +kernel
theorem dX7_stayingAt_36 : decode cX7_stayingAt 36 = .ok (.getfield 38, 3) := by decide +kernel
theorem dX7_stayingAt_39 : decode cX7_stayingAt 39 = .ok (.iload_n 3, 1) := by decide +kernel
theorem dX7_stayingAt_40 : decode cX7_stayingAt 40 = .ok (.iaload, 1) := by decide +kernel
theorem dX7_stayingAt_41 : decode cX7_stayingAt 41 = .ok (.iload_n 1, 1) := by decide +kernel
theorem dX7_stayingAt_42 : decode cX7_stayingAt 42 = .ok (.if_icmp .le 7, 3) := by decide +kernel
theorem dX7_stayingAt_45 : decode cX7_stayingAt 45 = .ok (.iconst 1, 1) := by decide +kernel
theorem dX7_stayingAt_46 : decode cX7_stayingAt 46 = .ok (.goto 4, 3) := by decide +kernel
theorem dX7_stayingAt_49 : decode cX7_stayingAt 49 = .ok (.iconst 0, 1) := by decide +kernel
theorem dX7_stayingAt_50 : decode cX7_stayingAt 50 = .ok (.iload_n 3, 1) := by decide +kernel
theorem dX7_stayingAt_51 : decode cX7_stayingAt 51 = .ok (.ishl, 1) := by decide +kernel
theorem dX7_stayingAt_52 : decode cX7_stayingAt 52 = .ok (.ior, 1) := by decide +kernel
theorem dX7_stayingAt_53 : decode cX7_stayingAt 53 = .ok (.istore_n 2, 1) := by decide +kernel
theorem dX7_stayingAt_54 : decode cX7_stayingAt 54 = .ok (.iinc 3 1, 3) := by decide +kernel
theorem dX7_stayingAt_57 : decode cX7_stayingAt 57 = .ok (.goto (-53), 3) := by decide +kernel
theorem dX7_stayingAt_60 : decode cX7_stayingAt 60 = .ok (.iload_n 2, 1) := by decide +kernel
theorem dX7_stayingAt_61 : decode cX7_stayingAt 61 = .ok (.ireturn, 1) := by decide +kernel
theorem dX7_stepsAt_0 : decode cX7_stepsAt 0 = .ok (.aload_n 0, 1) := by decide +kernel
theorem dX7_stepsAt_1 : decode cX7_stepsAt 1 = .ok (.iload_n 1, 1) := by decide +kernel
theorem dX7_stepsAt_2 : decode cX7_stepsAt 2 = .ok (.invokevirtual 273, 3) := by decide +kernel
theorem dX7_stepsAt_5 : decode cX7_stepsAt 5 = .ok (.istore_n 2, 1) := by decide +kernel
theorem dX7_stepsAt_6 : decode cX7_stepsAt 6 = .ok (.iconst 0, 1) := by decide +kernel
theorem dX7_stepsAt_7 : decode cX7_stepsAt 7 = .ok (.istore_n 3, 1) := by decide +kernel
theorem dX7_stepsAt_8 : decode cX7_stepsAt 8 = .ok (.iload_n 2, 1) := by decide +kernel
theorem dX7_stepsAt_9 : decode cX7_stepsAt 9 = .ok (.istore 4, 2) := by decide +kernel
theorem dX7_stepsAt_11 : decode cX7_stepsAt 11 = .ok (.iconst 0, 1) := by decide +kernel
theorem dX7_stepsAt_12 : decode cX7_stepsAt 12 = .ok (.istore 5, 2) := by decide +kernel
theorem dX7_stepsAt_14 : decode cX7_stepsAt 14 = .ok (.iload 5, 2) := by decide +kernel
theorem dX7_stepsAt_16 : decode cX7_stepsAt 16 = .ok (.aload_n 0, 1) := by decide +kernel
theorem dX7_stepsAt_17 : decode cX7_stepsAt 17 = .ok (.getfield 88, 3) := by decide +kernel
theorem dX7_stepsAt_20 : decode cX7_stepsAt 20 = .ok (.if_icmp .ge 43, 3) := by decide +kernel
theorem dX7_stepsAt_23 : decode cX7_stepsAt 23 = .ok (.aload_n 0, 1) := by decide +kernel
theorem dX7_stepsAt_24 : decode cX7_stepsAt 24 = .ok (.getfield 254, 3) := by decide +kernel
theorem dX7_stepsAt_27 : decode cX7_stepsAt 27 = .ok (.iload 5, 2) := by decide +kernel
theorem dX7_stepsAt_29 : decode cX7_stepsAt 29 = .ok (.ishr, 1) := by decide +kernel
theorem dX7_stepsAt_30 : decode cX7_stepsAt 30 = .ok (.iconst 1, 1) := by decide +kernel
theorem dX7_stepsAt_31 : decode cX7_stepsAt 31 = .ok (.iand, 1) := by decide +kernel
theorem dX7_stepsAt_32 : decode cX7_stepsAt 32 = .ok (.iconst 1, 1) := by decide +kernel
theorem dX7_stepsAt_33 : decode cX7_stepsAt 33 = .ok (.if_icmp .ne 24, 3) := by decide +kernel
theorem dX7_stepsAt_36 : decode cX7_stepsAt 36 = .ok (.aload_n 0, 1) := by decide +kernel
theorem dX7_stepsAt_37 : decode cX7_stepsAt 37 = .ok (.getfield 38, 3) := by decide +kernel
theorem dX7_stepsAt_40 : decode cX7_stepsAt 40 = .ok (.iload 5, 2) := by decide +kernel
theorem dX7_stepsAt_42 : decode cX7_stepsAt 42 = .ok (.iaload, 1) := by decide +kernel
theorem dX7_stepsAt_43 : decode cX7_stepsAt 43 = .ok (.iload_n 1, 1) := by decide +kernel
theorem dX7_stepsAt_44 : decode cX7_stepsAt 44 = .ok (.if_icmp .ne 13, 3) := by decide +kernel
theorem dX7_stepsAt_47 : decode cX7_stepsAt 47 = .ok (.iload_n 3, 1) := by decide +kernel
theorem dX7_stepsAt_48 : decode cX7_stepsAt 48 = .ok (.aload_n 0, 1) := by decide +kernel
theorem dX7_stepsAt_49 : decode cX7_stepsAt 49 = .ok (.iload 5, 2) := by decide +kernel
theorem dX7_stepsAt_51 : decode cX7_stepsAt 51 = .ok (.iload_n 2, 1) := by decide +kernel
theorem dX7_stepsAt_52 : decode cX7_stepsAt 52 = .ok (.invokevirtual 276, 3) := by decide +kernel
theorem dX7_stepsAt_55 : decode cX7_stepsAt 55 = .ok (.ior, 1) := by decide +kernel
theorem dX7_stepsAt_56 : decode cX7_stepsAt 56 = .ok (.istore_n 3, 1) := by decide +kernel
theorem dX7_stepsAt_57 : decode cX7_stepsAt 57 = .ok (.iinc 5 1, 3) := by decide +kernel
theorem dX7_stepsAt_60 : decode cX7_stepsAt 60 = .ok (.goto (-46), 3) := by decide +kernel
theorem dX7_stepsAt_63 : decode cX7_stepsAt 63 = .ok (.iconst 0, 1) := by decide +kernel
theorem dX7_stepsAt_64 : decode cX7_stepsAt 64 = .ok (.istore 5, 2) := by decide +kernel
theorem dX7_stepsAt_66 : decode cX7_stepsAt 66 = .ok (.iload 5, 2) := by decide +kernel
theorem dX7_stepsAt_68 : decode cX7_stepsAt 68 = .ok (.aload_n 0, 1) := by decide +kernel
theorem dX7_stepsAt_69 : decode cX7_stepsAt 69 = .ok (.getfield 88, 3) := by decide +kernel
theorem dX7_stepsAt_72 : decode cX7_stepsAt 72 = .ok (.if_icmp .ge 53, 3) := by decide +kernel
theorem dX7_stepsAt_75 : decode cX7_stepsAt 75 = .ok (.aload_n 0, 1) := by decide +kernel
theorem dX7_stepsAt_76 : decode cX7_stepsAt 76 = .ok (.getfield 254, 3) := by decide +kernel
theorem dX7_stepsAt_79 : decode cX7_stepsAt 79 = .ok (.iload 5, 2) := by decide +kernel
theorem dX7_stepsAt_81 : decode cX7_stepsAt 81 = .ok (.ishr, 1) := by decide +kernel
theorem dX7_stepsAt_82 : decode cX7_stepsAt 82 = .ok (.iconst 1, 1) := by decide +kernel
theorem dX7_stepsAt_83 : decode cX7_stepsAt 83 = .ok (.iand, 1) := by decide +kernel
theorem dX7_stepsAt_84 : decode cX7_stepsAt 84 = .ok (.iconst 1, 1) := by decide +kernel
theorem dX7_stepsAt_85 : decode cX7_stepsAt 85 = .ok (.if_icmp .ne 34, 3) := by decide +kernel
theorem dX7_stepsAt_88 : decode cX7_stepsAt 88 = .ok (.aload_n 0, 1) := by decide +kernel
theorem dX7_stepsAt_89 : decode cX7_stepsAt 89 = .ok (.getfield 35, 3) := by decide +kernel
theorem dX7_stepsAt_92 : decode cX7_stepsAt 92 = .ok (.iload 5, 2) := by decide +kernel
theorem dX7_stepsAt_94 : decode cX7_stepsAt 94 = .ok (.iaload, 1) := by decide +kernel
theorem dX7_stepsAt_95 : decode cX7_stepsAt 95 = .ok (.iload_n 1, 1) := by decide +kernel
theorem dX7_stepsAt_96 : decode cX7_stepsAt 96 = .ok (.if_icmp .ne 23, 3) := by decide +kernel
theorem dX7_stepsAt_99 : decode cX7_stepsAt 99 = .ok (.iload_n 3, 1) := by decide +kernel
theorem dX7_stepsAt_100 : decode cX7_stepsAt 100 = .ok (.aload_n 0, 1) := by decide +kernel
theorem dX7_stepsAt_101 : decode cX7_stepsAt 101 = .ok (.iload 5, 2) := by decide +kernel
theorem dX7_stepsAt_103 : decode cX7_stepsAt 103 = .ok (.iload 4, 2) := by decide +kernel
theorem dX7_stepsAt_105 : decode cX7_stepsAt 105 = .ok (.invokevirtual 276, 3) := by decide +kernel
theorem dX7_stepsAt_108 : decode cX7_stepsAt 108 = .ok (.ior, 1) := by decide +kernel
theorem dX7_stepsAt_109 : decode cX7_stepsAt 109 = .ok (.istore_n 3, 1) := by decide +kernel
theorem dX7_stepsAt_110 : decode cX7_stepsAt 110 = .ok (.iload 4, 2) := by decide +kernel
theorem dX7_stepsAt_112 : decode cX7_stepsAt 112 = .ok (.iconst 1, 1) := by decide +kernel
theorem dX7_stepsAt_113 : decode cX7_stepsAt 113 = .ok (.iload 5, 2) := by decide +kernel
theorem dX7_stepsAt_115 : decode cX7_stepsAt 115 = .ok (.ishl, 1) := by decide +kernel
theorem dX7_stepsAt_116 : decode cX7_stepsAt 116 = .ok (.ior, 1) := by decide +kernel
theorem dX7_stepsAt_117 : decode cX7_stepsAt 117 = .ok (.istore 4, 2) := by decide +kernel
theorem dX7_stepsAt_119 : decode cX7_stepsAt 119 = .ok (.iinc 5 1, 3) := by decide +kernel
theorem dX7_stepsAt_122 : decode cX7_stepsAt 122 = .ok (.goto (-56), 3) := by decide +kernel
theorem dX7_stepsAt_125 : decode cX7_stepsAt 125 = .ok (.iload_n 3, 1) := by decide +kernel
theorem dX7_stepsAt_126 : decode cX7_stepsAt 126 = .ok (.ireturn, 1) := by decide +kernel
theorem dX7_taken_0 : decode cX7_taken 0 = .ok (.iload_n 2, 1) := by decide +kernel
theorem dX7_taken_1 : decode cX7_taken 1 = .ok (.i2l, 1) := by decide +kernel
theorem dX7_taken_2 : decode cX7_taken 2 = .ok (.lconst 0, 1) := by decide +kernel
theorem dX7_taken_3 : decode cX7_taken 3 = .ok (.ldc2_w 95, 3) := by decide +kernel
theorem dX7_taken_6 : decode cX7_taken 6 = .ok (.invokestatic 91, 3) := by decide +kernel
theorem dX7_taken_9 : decode cX7_taken 9 = .ok (.ifCond .ne 6, 3) := by decide +kernel
theorem dX7_taken_12 : decode cX7_taken 12 = .ok (.bipush (-2), 2) := by decide +kernel
theorem dX7_taken_14 : decode cX7_taken 14 = .ok (.ireturn, 1) := by decide +kernel
theorem dX7_taken_15 : decode cX7_taken 15 = .ok (.aload_n 0, 1) := by decide +kernel
theorem dX7_taken_16 : decode cX7_taken 16 = .ok (.iload_n 1, 1) := by decide +kernel
theorem dX7_taken_17 : decode cX7_taken 17 = .ok (.invokevirtual 105, 3) := by decide +kernel
theorem dX7_taken_20 : decode cX7_taken 20 = .ok (.ifCond .ne 6, 3) := by decide +kernel
theorem dX7_taken_23 : decode cX7_taken 23 = .ok (.bipush (-11), 2) := by decide +kernel
theorem dX7_taken_25 : decode cX7_taken 25 = .ok (.ireturn, 1) := by decide +kernel
theorem dX7_taken_26 : decode cX7_taken 26 = .ok (.aload_n 0, 1) := by decide +kernel
theorem dX7_taken_27 : decode cX7_taken 27 = .ok (.getfield 26, 3) := by decide +kernel
theorem dX7_taken_30 : decode cX7_taken 30 = .ok (.iload_n 1, 1) := by decide +kernel
theorem dX7_taken_31 : decode cX7_taken 31 = .ok (.iaload, 1) := by decide +kernel
theorem dX7_taken_32 : decode cX7_taken 32 = .ok (.istore_n 3, 1) := by decide +kernel
theorem dX7_taken_33 : decode cX7_taken 33 = .ok (.iload_n 3, 1) := by decide +kernel
theorem dX7_taken_34 : decode cX7_taken 34 = .ok (.iconst (-1), 1) := by decide +kernel
theorem dX7_taken_35 : decode cX7_taken 35 = .ok (.if_icmp .eq 16, 3) := by decide +kernel
theorem dX7_taken_38 : decode cX7_taken 38 = .ok (.iload_n 3, 1) := by decide +kernel
theorem dX7_taken_39 : decode cX7_taken 39 = .ok (.iload_n 2, 1) := by decide +kernel
theorem dX7_taken_40 : decode cX7_taken 40 = .ok (.if_icmp .eq 11, 3) := by decide +kernel
theorem dX7_taken_43 : decode cX7_taken 43 = .ok (.iload_n 3, 1) := by decide +kernel
theorem dX7_taken_44 : decode cX7_taken 44 = .ok (.invokestatic 365, 3) := by decide +kernel
theorem dX7_taken_47 : decode cX7_taken 47 = .ok (.istore_n 3, 1) := by decide +kernel
theorem dX7_taken_48 : decode cX7_taken 48 = .ok (.goto (-15), 3) := by decide +kernel
theorem dX7_taken_51 : decode cX7_taken 51 = .ok (.iload_n 3, 1) := by decide +kernel
theorem dX7_taken_52 : decode cX7_taken 52 = .ok (.iload_n 2, 1) := by decide +kernel
theorem dX7_taken_53 : decode cX7_taken 53 = .ok (.if_icmp .ne 12, 3) := by decide +kernel
theorem dX7_taken_56 : decode cX7_taken 56 = .ok (.aload_n 0, 1) := by decide +kernel
theorem dX7_taken_57 : decode cX7_taken 57 = .ok (.getfield 29, 3) := by decide +kernel
theorem dX7_taken_60 : decode cX7_taken 60 = .ok (.iload_n 1, 1) := by decide +kernel
theorem dX7_taken_61 : decode cX7_taken 61 = .ok (.iaload, 1) := by decide +kernel
theorem dX7_taken_62 : decode cX7_taken 62 = .ok (.goto 5, 3) := by decide +kernel
theorem dX7_taken_65 : decode cX7_taken 65 = .ok (.bipush (-13), 2) := by decide +kernel
theorem dX7_taken_67 : decode cX7_taken 67 = .ok (.ireturn, 1) := by decide +kernel
theorem dX7_term_0 : decode cX7_term 0 = .ok (.aload_n 0, 1) := by decide +kernel
theorem dX7_term_1 : decode cX7_term 1 = .ok (.invokevirtual 214, 3) := by decide +kernel
theorem dX7_term_4 : decode cX7_term 4 = .ok (.istore_n 1, 1) := by decide +kernel
theorem dX7_term_5 : decode cX7_term 5 = .ok (.aload_n 0, 1) := by decide +kernel
theorem dX7_term_6 : decode cX7_term 6 = .ok (.bipush 42, 2) := by decide +kernel
theorem dX7_term_8 : decode cX7_term 8 = .ok (.invokevirtual 207, 3) := by decide +kernel
theorem dX7_term_11 : decode cX7_term 11 = .ok (.ifCond .eq 17, 3) := by decide +kernel
theorem dX7_term_14 : decode cX7_term 14 = .ok (.aload_n 0, 1) := by decide +kernel
theorem dX7_term_15 : decode cX7_term 15 = .ok (.invokevirtual 182, 3) := by decide +kernel
theorem dX7_term_18 : decode cX7_term 18 = .ok (.iload_n 1, 1) := by decide +kernel
theorem dX7_term_19 : decode cX7_term 19 = .ok (.aload_n 0, 1) := by decide +kernel
theorem dX7_term_20 : decode cX7_term 20 = .ok (.invokevirtual 214, 3) := by decide +kernel
theorem dX7_term_23 : decode cX7_term 23 = .ok (.imul, 1) := by decide +kernel
theorem dX7_term_24 : decode cX7_term 24 = .ok (.istore_n 1, 1) := by decide +kernel
theorem dX7_term_25 : decode cX7_term 25 = .ok (.goto (-20), 3) := by decide +kernel
theorem dX7_term_28 : decode cX7_term 28 = .ok (.iload_n 1, 1) := by decide +kernel
theorem dX7_term_29 : decode cX7_term 29 = .ok (.ireturn, 1) := by decide +kernel
theorem dX7_text_0 : decode cX7_text 0 = .ok (.aload_n 0, 1) := by decide +kernel
theorem dX7_text_1 : decode cX7_text 1 = .ok (.getfield 85, 3) := by decide +kernel
theorem dX7_text_4 : decode cX7_text 4 = .ok (.bipush 6, 2) := by decide +kernel
theorem dX7_text_6 : decode cX7_text 6 = .ok (.if_icmp .ne 6, 3) := by decide +kernel
theorem dX7_text_9 : decode cX7_text 9 = .ok (.bipush (-4), 2) := by decide +kernel
theorem dX7_text_11 : decode cX7_text 11 = .ok (.ireturn, 1) := by decide +kernel
theorem dX7_text_12 : decode cX7_text 12 = .ok (.iconst 0, 1) := by decide +kernel
theorem dX7_text_13 : decode cX7_text 13 = .ok (.istore_n 1, 1) := by decide +kernel
theorem dX7_text_14 : decode cX7_text 14 = .ok (.iload_n 1, 1) := by decide +kernel
theorem dX7_text_15 : decode cX7_text 15 = .ok (.aload_n 0, 1) := by decide +kernel
theorem dX7_text_16 : decode cX7_text 16 = .ok (.getfield 130, 3) := by decide +kernel
theorem dX7_text_19 : decode cX7_text 19 = .ok (.if_icmp .ge 30, 3) := by decide +kernel
theorem dX7_text_22 : decode cX7_text 22 = .ok (.aload_n 0, 1) := by decide +kernel
theorem dX7_text_23 : decode cX7_text 23 = .ok (.getfield 13, 3) := by decide +kernel
theorem dX7_text_26 : decode cX7_text 26 = .ok (.sipush 160, 3) := by decide +kernel
theorem dX7_text_29 : decode cX7_text 29 = .ok (.aload_n 0, 1) := by decide +kernel
theorem dX7_text_30 : decode cX7_text 30 = .ok (.getfield 85, 3) := by decide +kernel
theorem dX7_text_33 : decode cX7_text 33 = .ok (.imul, 1) := by decide +kernel
theorem dX7_text_34 : decode cX7_text 34 = .ok (.iload_n 1, 1) := by decide +kernel
theorem dX7_text_35 : decode cX7_text 35 = .ok (.iadd, 1) := by decide +kernel
theorem dX7_text_36 : decode cX7_text 36 = .ok (.aload_n 0, 1) := by decide +kernel
theorem dX7_text_37 : decode cX7_text 37 = .ok (.getfield 20, 3) := by decide +kernel
theorem dX7_text_40 : decode cX7_text 40 = .ok (.iload_n 1, 1) := by decide +kernel
theorem dX7_text_41 : decode cX7_text 41 = .ok (.iaload, 1) := by decide +kernel
theorem dX7_text_42 : decode cX7_text 42 = .ok (.iastore, 1) := by decide +kernel
theorem dX7_text_43 : decode cX7_text 43 = .ok (.iinc 1 1, 3) := by decide +kernel
theorem dX7_text_46 : decode cX7_text 46 = .ok (.goto (-32), 3) := by decide +kernel
theorem dX7_text_49 : decode cX7_text 49 = .ok (.aload_n 0, 1) := by decide +kernel
theorem dX7_text_50 : decode cX7_text 50 = .ok (.getfield 17, 3) := by decide +kernel
theorem dX7_text_53 : decode cX7_text 53 = .ok (.aload_n 0, 1) := by decide +kernel
theorem dX7_text_54 : decode cX7_text 54 = .ok (.getfield 85, 3) := by decide +kernel
theorem dX7_text_57 : decode cX7_text 57 = .ok (.aload_n 0, 1) := by decide +kernel
theorem dX7_text_58 : decode cX7_text 58 = .ok (.getfield 130, 3) := by decide +kernel
theorem dX7_text_61 : decode cX7_text 61 = .ok (.iastore, 1) := by decide +kernel
theorem dX7_text_62 : decode cX7_text 62 = .ok (.aload_n 0, 1) := by decide +kernel
theorem dX7_text_63 : decode cX7_text 63 = .ok (.iconst 0, 1) := by decide +kernel
theorem dX7_text_64 : decode cX7_text 64 = .ok (.putfield 130, 3) := by decide +kernel
theorem dX7_text_67 : decode cX7_text 67 = .ok (.aload_n 0, 1) := by decide +kernel
theorem dX7_text_68 : decode cX7_text 68 = .ok (.aload_n 0, 1) := by decide +kernel
theorem dX7_text_69 : decode cX7_text 69 = .ok (.getfield 85, 3) := by decide +kernel
theorem dX7_text_72 : decode cX7_text 72 = .ok (.iconst 0, 1) := by decide +kernel
theorem dX7_text_73 : decode cX7_text 73 = .ok (.invokevirtual 244, 3) := by decide +kernel
theorem dX7_text_76 : decode cX7_text 76 = .ok (.istore_n 1, 1) := by decide +kernel
theorem dX7_text_77 : decode cX7_text 77 = .ok (.aload_n 0, 1) := by decide +kernel
theorem dX7_text_78 : decode cX7_text 78 = .ok (.getfield 166, 3) := by decide +kernel
theorem dX7_text_81 : decode cX7_text 81 = .ok (.ifCond .eq 11, 3) := by decide +kernel
theorem dX7_text_84 : decode cX7_text 84 = .ok (.bipush (-100), 2) := by decide +kernel
theorem dX7_text_86 : decode cX7_text 86 = .ok (.aload_n 0, 1) := by decide +kernel
theorem dX7_text_87 : decode cX7_text 87 = .ok (.getfield 170, 3) := by decide +kernel
theorem dX7_text_90 : decode cX7_text 90 = .ok (.isub, 1) := by decide +kernel
theorem dX7_text_91 : decode cX7_text 91 = .ok (.ireturn, 1) := by decide +kernel
theorem dX7_text_92 : decode cX7_text 92 = .ok (.aload_n 0, 1) := by decide +kernel
theorem dX7_text_93 : decode cX7_text 93 = .ok (.dup, 1) := by decide +kernel
theorem dX7_text_94 : decode cX7_text 94 = .ok (.getfield 85, 3) := by decide +kernel
theorem dX7_text_97 : decode cX7_text 97 = .ok (.iconst 1, 1) := by decide +kernel
theorem dX7_text_98 : decode cX7_text 98 = .ok (.iadd, 1) := by decide +kernel
theorem dX7_text_99 : decode cX7_text 99 = .ok (.putfield 85, 3) := by decide +kernel
theorem dX7_text_102 : decode cX7_text 102 = .ok (.aload_n 0, 1) := by decide +kernel
theorem dX7_text_103 : decode cX7_text 103 = .ok (.getfield 85, 3) := by decide +kernel
theorem dX7_text_106 : decode cX7_text 106 = .ok (.iconst 1, 1) := by decide +kernel
theorem dX7_text_107 : decode cX7_text 107 = .ok (.isub, 1) := by decide +kernel
theorem dX7_text_108 : decode cX7_text 108 = .ok (.ireturn, 1) := by decide +kernel
theorem dX7_told_0 : decode cX7_told 0 = .ok (.aload_n 0, 1) := by decide +kernel
theorem dX7_told_1 : decode cX7_told 1 = .ok (.iload_n 1, 1) := by decide +kernel
theorem dX7_told_2 : decode cX7_told 2 = .ok (.invokevirtual 105, 3) := by decide +kernel
theorem dX7_told_5 : decode cX7_told 5 = .ok (.ifCond .eq 15, 3) := by decide +kernel
theorem dX7_told_8 : decode cX7_told 8 = .ok (.iload_n 2, 1) := by decide +kernel
theorem dX7_told_9 : decode cX7_told 9 = .ok (.i2l, 1) := by decide +kernel
theorem dX7_told_10 : decode cX7_told 10 = .ok (.lconst 0, 1) := by decide +kernel
theorem dX7_told_11 : decode cX7_told 11 = .ok (.ldc2_w 122, 3) := by decide +kernel
theorem dX7_told_14 : decode cX7_told 14 = .ok (.invokestatic 91, 3) := by decide +kernel
theorem dX7_told_17 : decode cX7_told 17 = .ok (.ifCond .ne 6, 3) := by decide +kernel
theorem dX7_told_20 : decode cX7_told 20 = .ok (.bipush (-2), 2) := by decide +kernel
theorem dX7_told_22 : decode cX7_told 22 = .ok (.ireturn, 1) := by decide +kernel
theorem dX7_told_23 : decode cX7_told 23 = .ok (.iload_n 2, 1) := by decide +kernel
theorem dX7_told_24 : decode cX7_told 24 = .ok (.iconst 3, 1) := by decide +kernel
theorem dX7_told_25 : decode cX7_told 25 = .ok (.if_icmp .ge 37, 3) := by decide +kernel
theorem dX7_told_28 : decode cX7_told 28 = .ok (.iload_n 2, 1) := by decide +kernel
theorem dX7_told_29 : decode cX7_told 29 = .ok (.ifCond .ne 12, 3) := by decide +kernel
theorem dX7_told_32 : decode cX7_told 32 = .ok (.aload_n 0, 1) := by decide +kernel
theorem dX7_told_33 : decode cX7_told 33 = .ok (.getfield 26, 3) := by decide +kernel
theorem dX7_told_36 : decode cX7_told 36 = .ok (.iload_n 1, 1) := by decide +kernel
theorem dX7_told_37 : decode cX7_told 37 = .ok (.iaload, 1) := by decide +kernel
theorem dX7_told_38 : decode cX7_told 38 = .ok (.goto 23, 3) := by decide +kernel
theorem dX7_told_41 : decode cX7_told 41 = .ok (.iload_n 2, 1) := by decide +kernel
theorem dX7_told_42 : decode cX7_told 42 = .ok (.iconst 1, 1) := by decide +kernel
theorem dX7_told_43 : decode cX7_told 43 = .ok (.if_icmp .ne 12, 3) := by decide +kernel
theorem dX7_told_46 : decode cX7_told 46 = .ok (.aload_n 0, 1) := by decide +kernel
theorem dX7_told_47 : decode cX7_told 47 = .ok (.getfield 29, 3) := by decide +kernel
theorem dX7_told_50 : decode cX7_told 50 = .ok (.iload_n 1, 1) := by decide +kernel
theorem dX7_told_51 : decode cX7_told 51 = .ok (.iaload, 1) := by decide +kernel
theorem dX7_told_52 : decode cX7_told 52 = .ok (.goto 9, 3) := by decide +kernel
theorem dX7_told_55 : decode cX7_told 55 = .ok (.aload_n 0, 1) := by decide +kernel
theorem dX7_told_56 : decode cX7_told 56 = .ok (.getfield 32, 3) := by decide +kernel
theorem dX7_told_59 : decode cX7_told 59 = .ok (.iload_n 1, 1) := by decide +kernel
theorem dX7_told_60 : decode cX7_told 60 = .ok (.iaload, 1) := by decide +kernel
theorem dX7_told_61 : decode cX7_told 61 = .ok (.ireturn, 1) := by decide +kernel
theorem dX7_told_62 : decode cX7_told 62 = .ok (.iload_n 2, 1) := by decide +kernel
theorem dX7_told_63 : decode cX7_told 63 = .ok (.iconst 3, 1) := by decide +kernel
theorem dX7_told_64 : decode cX7_told 64 = .ok (.if_icmp .ne 12, 3) := by decide +kernel
theorem dX7_told_67 : decode cX7_told 67 = .ok (.aload_n 0, 1) := by decide +kernel
theorem dX7_told_68 : decode cX7_told 68 = .ok (.getfield 38, 3) := by decide +kernel
theorem dX7_told_71 : decode cX7_told 71 = .ok (.iload_n 1, 1) := by decide +kernel
theorem dX7_told_72 : decode cX7_told 72 = .ok (.iaload, 1) := by decide +kernel
theorem dX7_told_73 : decode cX7_told 73 = .ok (.goto 37, 3) := by decide +kernel
theorem dX7_told_76 : decode cX7_told 76 = .ok (.iload_n 2, 1) := by decide +kernel
theorem dX7_told_77 : decode cX7_told 77 = .ok (.iconst 4, 1) := by decide +kernel
theorem dX7_told_78 : decode cX7_told 78 = .ok (.if_icmp .ne 12, 3) := by decide +kernel
theorem dX7_told_81 : decode cX7_told 81 = .ok (.aload_n 0, 1) := by decide +kernel
theorem dX7_told_82 : decode cX7_told 82 = .ok (.getfield 41, 3) := by decide +kernel
theorem dX7_told_85 : decode cX7_told 85 = .ok (.iload_n 1, 1) := by decide +kernel
theorem dX7_told_86 : decode cX7_told 86 = .ok (.iaload, 1) := by decide +kernel
theorem dX7_told_87 : decode cX7_told 87 = .ok (.goto 23, 3) := by decide +kernel
theorem dX7_told_90 : decode cX7_told 90 = .ok (.iload_n 2, 1) := by decide +kernel
theorem dX7_told_91 : decode cX7_told 91 = .ok (.iconst 5, 1) := by decide +kernel
theorem dX7_told_92 : decode cX7_told 92 = .ok (.if_icmp .ne 12, 3) := by decide +kernel
theorem dX7_told_95 : decode cX7_told 95 = .ok (.aload_n 0, 1) := by decide +kernel
theorem dX7_told_96 : decode cX7_told 96 = .ok (.getfield 44, 3) := by decide +kernel
theorem dX7_told_99 : decode cX7_told 99 = .ok (.iload_n 1, 1) := by decide +kernel
theorem dX7_told_100 : decode cX7_told 100 = .ok (.iaload, 1) := by decide +kernel
theorem dX7_told_101 : decode cX7_told 101 = .ok (.goto 9, 3) := by decide +kernel
theorem dX7_told_104 : decode cX7_told 104 = .ok (.aload_n 0, 1) := by decide +kernel
theorem dX7_told_105 : decode cX7_told 105 = .ok (.getfield 35, 3) := by decide +kernel
theorem dX7_told_108 : decode cX7_told 108 = .ok (.iload_n 1, 1) := by decide +kernel
theorem dX7_told_109 : decode cX7_told 109 = .ok (.iaload, 1) := by decide +kernel
theorem dX7_told_110 : decode cX7_told 110 = .ok (.ireturn, 1) := by decide +kernel
theorem dX7_unlikeAt_0 : decode cX7_unlikeAt 0 = .ok (.aload_n 0, 1) := by decide +kernel
theorem dX7_unlikeAt_1 : decode cX7_unlikeAt 1 = .ok (.aload_n 0, 1) := by decide +kernel
theorem dX7_unlikeAt_2 : decode cX7_unlikeAt 2 = .ok (.invokevirtual 291, 3) := by decide +kernel
theorem dX7_unlikeAt_5 : decode cX7_unlikeAt 5 = .ok (.putfield 254, 3) := by decide +kernel
theorem dX7_unlikeAt_8 : decode cX7_unlikeAt 8 = .ok (.iconst 0, 1) := by decide +kernel
theorem dX7_unlikeAt_9 : decode cX7_unlikeAt 9 = .ok (.istore_n 2, 1) := by decide +kernel
theorem dX7_unlikeAt_10 : decode cX7_unlikeAt 10 = .ok (.iload_n 2, 1) := by decide +kernel
theorem dX7_unlikeAt_11 : decode cX7_unlikeAt 11 = .ok (.aload_n 0, 1) := by decide +kernel
theorem dX7_unlikeAt_12 : decode cX7_unlikeAt 12 = .ok (.getfield 75, 3) := by decide +kernel
theorem dX7_unlikeAt_15 : decode cX7_unlikeAt 15 = .ok (.iload_n 1, 1) := by decide +kernel
theorem dX7_unlikeAt_16 : decode cX7_unlikeAt 16 = .ok (.iaload, 1) := by decide +kernel
theorem dX7_unlikeAt_17 : decode cX7_unlikeAt 17 = .ok (.if_icmp .ge 30, 3) := by decide +kernel
theorem dX7_unlikeAt_20 : decode cX7_unlikeAt 20 = .ok (.aload_n 0, 1) := by decide +kernel
theorem dX7_unlikeAt_21 : decode cX7_unlikeAt 21 = .ok (.iload_n 2, 1) := by decide +kernel
theorem dX7_unlikeAt_22 : decode cX7_unlikeAt 22 = .ok (.invokevirtual 285, 3) := by decide +kernel
theorem dX7_unlikeAt_25 : decode cX7_unlikeAt 25 = .ok (.aload_n 0, 1) := by decide +kernel
theorem dX7_unlikeAt_26 : decode cX7_unlikeAt 26 = .ok (.getfield 78, 3) := by decide +kernel
theorem dX7_unlikeAt_29 : decode cX7_unlikeAt 29 = .ok (.bipush 40, 2) := by decide +kernel
theorem dX7_unlikeAt_31 : decode cX7_unlikeAt 31 = .ok (.iload_n 1, 1) := by decide +kernel
theorem dX7_unlikeAt_32 : decode cX7_unlikeAt 32 = .ok (.imul, 1) := by decide +kernel
theorem dX7_unlikeAt_33 : decode cX7_unlikeAt 33 = .ok (.iload_n 2, 1) := by decide +kernel
theorem dX7_unlikeAt_34 : decode cX7_unlikeAt 34 = .ok (.iadd, 1) := by decide +kernel
theorem dX7_unlikeAt_35 : decode cX7_unlikeAt 35 = .ok (.iaload, 1) := by decide +kernel
theorem dX7_unlikeAt_36 : decode cX7_unlikeAt 36 = .ok (.if_icmp .eq 5, 3) := by decide +kernel
theorem dX7_unlikeAt_39 : decode cX7_unlikeAt 39 = .ok (.iload_n 2, 1) := by decide +kernel
theorem dX7_unlikeAt_40 : decode cX7_unlikeAt 40 = .ok (.ireturn, 1) := by decide +kernel
theorem dX7_unlikeAt_41 : decode cX7_unlikeAt 41 = .ok (.iinc 2 1, 3) := by decide +kernel
theorem dX7_unlikeAt_44 : decode cX7_unlikeAt 44 = .ok (.goto (-34), 3) := by decide +kernel
theorem dX7_unlikeAt_47 : decode cX7_unlikeAt 47 = .ok (.iconst (-1), 1) := by decide +kernel
theorem dX7_unlikeAt_48 : decode cX7_unlikeAt 48 = .ok (.ireturn, 1) := by decide +kernel
theorem dX7_within_0 : decode cX7_within 0 = .ok (.iload_n 0, 1) := by decide +kernel
theorem dX7_within_1 : decode cX7_within 1 = .ok (.iload_n 1, 1) := by decide +kernel
theorem dX7_within_2 : decode cX7_within 2 = .ok (.if_icmp .ge 7, 3) := by decide +kernel
theorem dX7_within_5 : decode cX7_within 5 = .ok (.iload_n 1, 1) := by decide +kernel
theorem dX7_within_6 : decode cX7_within 6 = .ok (.goto 13, 3) := by decide +kernel
theorem dX7_within_9 : decode cX7_within 9 = .ok (.iload_n 0, 1) := by decide +kernel
theorem dX7_within_10 : decode cX7_within 10 = .ok (.iload_n 2, 1) := by decide +kernel
theorem dX7_within_11 : decode cX7_within 11 = .ok (.if_icmp .le 7, 3) := by decide +kernel
theorem dX7_within_14 : decode cX7_within 14 = .ok (.iload_n 2, 1) := by decide +kernel
theorem dX7_within_15 : decode cX7_within 15 = .ok (.goto 4, 3) := by decide +kernel
theorem dX7_within_18 : decode cX7_within 18 = .ok (.iload_n 0, 1) := by decide +kernel
theorem dX7_within_19 : decode cX7_within 19 = .ok (.ireturn, 1) := by decide +kernel

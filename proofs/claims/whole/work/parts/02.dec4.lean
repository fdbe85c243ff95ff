theorem dX7_floor_104 : decode cX7_floor 104 = .ok (.iconst 0, 1) := by decide +kernel
theorem dX7_floor_105 : decode cX7_floor 105 = .ok (.iload 5, 2) := by decide +kernel
theorem dX7_floor_107 : decode cX7_floor 107 = .ok (.ishl, 1) := by decide +kernel
theorem dX7_floor_108 : decode cX7_floor 108 = .ok (.ior, 1) := by decide +kernel
theorem dX7_floor_109 : decode cX7_floor 109 = .ok (.istore 4, 2) := by decide +kernel
theorem dX7_floor_111 : decode cX7_floor 111 = .ok (.iinc 5 1, 3) := by decide +kernel
theorem dX7_floor_114 : decode cX7_floor 114 = .ok (.goto (-47), 3) := by decide +kernel
theorem dX7_floor_117 : decode cX7_floor 117 = .ok (.iload 4, 2) := by decide +kernel
theorem dX7_floor_119 : decode cX7_floor 119 = .ok (.ireturn, 1) := by decide +kernel
theorem dX7_force_0 : decode cX7_force 0 = .ok (.iload_n 1, 1) := by decide +kernel
theorem dX7_force_1 : decode cX7_force 1 = .ok (.i2l, 1) := by decide +kernel
theorem dX7_force_2 : decode cX7_force 2 = .ok (.lconst 0, 1) := by decide +kernel
theorem dX7_force_3 : decode cX7_force 3 = .ok (.aload_n 0, 1) := by decide +kernel
theorem dX7_force_4 : decode cX7_force 4 = .ok (.getfield 85, 3) := by decide +kernel
theorem dX7_force_7 : decode cX7_force 7 = .ok (.iconst 1, 1) := by decide +kernel
theorem dX7_force_8 : decode cX7_force 8 = .ok (.isub, 1) := by decide +kernel
theorem dX7_force_9 : decode cX7_force 9 = .ok (.i2l, 1) := by decide +kernel
theorem dX7_force_10 : decode cX7_force 10 = .ok (.invokestatic 91, 3) := by decide +kernel
theorem dX7_force_13 : decode cX7_force 13 = .ok (.ifCond .ne 6, 3) := by decide +kernel
theorem dX7_force_16 : decode cX7_force 16 = .ok (.bipush (-2), 2) := by decide +kernel
theorem dX7_force_18 : decode cX7_force 18 = .ok (.ireturn, 1) := by decide +kernel
theorem dX7_force_19 : decode cX7_force 19 = .ok (.aload_n 0, 1) := by decide +kernel
theorem dX7_force_20 : decode cX7_force 20 = .ok (.getfield 247, 3) := by decide +kernel
theorem dX7_force_23 : decode cX7_force 23 = .ok (.istore_n 2, 1) := by decide +kernel
theorem dX7_force_24 : decode cX7_force 24 = .ok (.aload_n 0, 1) := by decide +kernel
theorem dX7_force_25 : decode cX7_force 25 = .ok (.iload_n 1, 1) := by decide +kernel
theorem dX7_force_26 : decode cX7_force 26 = .ok (.putfield 247, 3) := by decide +kernel
theorem dX7_force_29 : decode cX7_force 29 = .ok (.iload_n 2, 1) := by decide +kernel
theorem dX7_force_30 : decode cX7_force 30 = .ok (.ireturn, 1) := by decide +kernel
theorem dX7_gathers_0 : decode cX7_gathers 0 = .ok (.aload_n 0, 1) := by decide +kernel
theorem dX7_gathers_1 : decode cX7_gathers 1 = .ok (.iload_n 1, 1) := by decide +kernel
theorem dX7_gathers_2 : decode cX7_gathers 2 = .ok (.putfield 254, 3) := by decide +kernel
theorem dX7_gathers_5 : decode cX7_gathers 5 = .ok (.iconst 0, 1) := by decide +kernel
theorem dX7_gathers_6 : decode cX7_gathers 6 = .ok (.istore_n 2, 1) := by decide +kernel
theorem dX7_gathers_7 : decode cX7_gathers 7 = .ok (.iload_n 2, 1) := by decide +kernel
theorem dX7_gathers_8 : decode cX7_gathers 8 = .ok (.bipush 10, 2) := by decide +kernel
theorem dX7_gathers_10 : decode cX7_gathers 10 = .ok (.if_icmp .ge 126, 3) := by decide +kernel
theorem dX7_gathers_13 : decode cX7_gathers 13 = .ok (.aload_n 0, 1) := by decide +kernel
theorem dX7_gathers_14 : decode cX7_gathers 14 = .ok (.iload_n 2, 1) := by decide +kernel
theorem dX7_gathers_15 : decode cX7_gathers 15 = .ok (.invokevirtual 257, 3) := by decide +kernel
theorem dX7_gathers_18 : decode cX7_gathers 18 = .ok (.istore_n 3, 1) := by decide +kernel
theorem dX7_gathers_19 : decode cX7_gathers 19 = .ok (.iconst 0, 1) := by decide +kernel
theorem dX7_gathers_20 : decode cX7_gathers 20 = .ok (.istore 4, 2) := by decide +kernel
theorem dX7_gathers_22 : decode cX7_gathers 22 = .ok (.iload 4, 2) := by decide +kernel
theorem dX7_gathers_24 : decode cX7_gathers 24 = .ok (.aload_n 0, 1) := by decide +kernel
theorem dX7_gathers_25 : decode cX7_gathers 25 = .ok (.getfield 88, 3) := by decide +kernel
theorem dX7_gathers_28 : decode cX7_gathers 28 = .ok (.if_icmp .ge 102, 3) := by decide +kernel
theorem dX7_gathers_31 : decode cX7_gathers 31 = .ok (.iconst 0, 1) := by decide +kernel
theorem dX7_gathers_32 : decode cX7_gathers 32 = .ok (.istore 5, 2) := by decide +kernel
theorem dX7_gathers_34 : decode cX7_gathers 34 = .ok (.iload 5, 2) := by decide +kernel
theorem dX7_gathers_36 : decode cX7_gathers 36 = .ok (.iconst 3, 1) := by decide +kernel
theorem dX7_gathers_37 : decode cX7_gathers 37 = .ok (.if_icmp .ge 87, 3) := by decide +kernel
theorem dX7_gathers_40 : decode cX7_gathers 40 = .ok (.aload_n 0, 1) := by decide +kernel
theorem dX7_gathers_41 : decode cX7_gathers 41 = .ok (.getfield 35, 3) := by decide +kernel
theorem dX7_gathers_44 : decode cX7_gathers 44 = .ok (.iload 4, 2) := by decide +kernel
theorem dX7_gathers_46 : decode cX7_gathers 46 = .ok (.iaload, 1) := by decide +kernel
theorem dX7_gathers_47 : decode cX7_gathers 47 = .ok (.iload_n 2, 1) := by decide +kernel
theorem dX7_gathers_48 : decode cX7_gathers 48 = .ok (.if_icmp .gt 76, 3) := by decide +kernel
theorem dX7_gathers_51 : decode cX7_gathers 51 = .ok (.aload_n 0, 1) := by decide +kernel
theorem dX7_gathers_52 : decode cX7_gathers 52 = .ok (.getfield 38, 3) := by decide +kernel
theorem dX7_gathers_55 : decode cX7_gathers 55 = .ok (.iload 4, 2) := by decide +kernel
theorem dX7_gathers_57 : decode cX7_gathers 57 = .ok (.iaload, 1) := by decide +kernel
theorem dX7_gathers_58 : decode cX7_gathers 58 = .ok (.iload_n 2, 1) := by decide +kernel
theorem dX7_gathers_59 : decode cX7_gathers 59 = .ok (.if_icmp .le 65, 3) := by decide +kernel
theorem dX7_gathers_62 : decode cX7_gathers 62 = .ok (.bipush 30, 2) := by decide +kernel
theorem dX7_gathers_64 : decode cX7_gathers 64 = .ok (.iload 4, 2) := by decide +kernel
theorem dX7_gathers_66 : decode cX7_gathers 66 = .ok (.imul, 1) := by decide +kernel
theorem dX7_gathers_67 : decode cX7_gathers 67 = .ok (.iconst 3, 1) := by decide +kernel
theorem dX7_gathers_68 : decode cX7_gathers 68 = .ok (.iload_n 2, 1) := by decide +kernel
theorem dX7_gathers_69 : decode cX7_gathers 69 = .ok (.imul, 1) := by decide +kernel
theorem dX7_gathers_70 : decode cX7_gathers 70 = .ok (.iadd, 1) := by decide +kernel
theorem dX7_gathers_71 : decode cX7_gathers 71 = .ok (.iload 5, 2) := by decide +kernel
theorem dX7_gathers_73 : decode cX7_gathers 73 = .ok (.iadd, 1) := by decide +kernel
theorem dX7_gathers_74 : decode cX7_gathers 74 = .ok (.istore 6, 2) := by decide +kernel
theorem dX7_gathers_76 : decode cX7_gathers 76 = .ok (.aload_n 0, 1) := by decide +kernel
theorem dX7_gathers_77 : decode cX7_gathers 77 = .ok (.getfield 47, 3) := by decide +kernel
theorem dX7_gathers_80 : decode cX7_gathers 80 = .ok (.iload 6, 2) := by decide +kernel
theorem dX7_gathers_82 : decode cX7_gathers 82 = .ok (.aload_n 0, 1) := by decide +kernel
theorem dX7_gathers_83 : decode cX7_gathers 83 = .ok (.iload 4, 2) := by decide +kernel
theorem dX7_gathers_85 : decode cX7_gathers 85 = .ok (.aload_n 0, 1) := by decide +kernel
theorem dX7_gathers_86 : decode cX7_gathers 86 = .ok (.iconst 0, 1) := by decide +kernel
theorem dX7_gathers_87 : decode cX7_gathers 87 = .ok (.iload 4, 2) := by decide +kernel
theorem dX7_gathers_89 : decode cX7_gathers 89 = .ok (.iload_n 2, 1) := by decide +kernel
theorem dX7_gathers_90 : decode cX7_gathers 90 = .ok (.iload 5, 2) := by decide +kernel
theorem dX7_gathers_92 : decode cX7_gathers 92 = .ok (.iload_n 3, 1) := by decide +kernel
theorem dX7_gathers_93 : decode cX7_gathers 93 = .ok (.invokevirtual 260, 3) := by decide +kernel
theorem dX7_gathers_96 : decode cX7_gathers 96 = .ok (.invokevirtual 264, 3) := by decide +kernel
theorem dX7_gathers_99 : decode cX7_gathers 99 = .ok (.iastore, 1) := by decide +kernel
theorem dX7_gathers_100 : decode cX7_gathers 100 = .ok (.aload_n 0, 1) := by decide +kernel
theorem dX7_gathers_101 : decode cX7_gathers 101 = .ok (.getfield 50, 3) := by decide +kernel
theorem dX7_gathers_104 : decode cX7_gathers 104 = .ok (.iload 6, 2) := by decide +kernel
theorem dX7_gathers_106 : decode cX7_gathers 106 = .ok (.aload_n 0, 1) := by decide +kernel
theorem dX7_gathers_107 : decode cX7_gathers 107 = .ok (.iconst 1, 1) := by decide +kernel
theorem dX7_gathers_108 : decode cX7_gathers 108 = .ok (.iload 4, 2) := by decide +kernel
theorem dX7_gathers_110 : decode cX7_gathers 110 = .ok (.iload_n 2, 1) := by decide +kernel
theorem dX7_gathers_111 : decode cX7_gathers 111 = .ok (.iload 5, 2) := by decide +kernel
theorem dX7_gathers_113 : decode cX7_gathers 113 = .ok (.iload_n 3, 1) := by decide +kernel
theorem dX7_gathers_114 : decode cX7_gathers 114 = .ok (.invokevirtual 260, 3) := by decide +kernel
theorem dX7_gathers_117 : decode cX7_gathers 117 = .ok (.iastore, 1) := by decide +kernel
theorem dX7_gathers_118 : decode cX7_gathers 118 = .ok (.iinc 5 1, 3) := by decide +kernel
theorem dX7_gathers_121 : decode cX7_gathers 121 = .ok (.goto (-87), 3) := by decide +kernel
theorem dX7_gathers_124 : decode cX7_gathers 124 = .ok (.iinc 4 1, 3) := by decide +kernel
theorem dX7_gathers_127 : decode cX7_gathers 127 = .ok (.goto (-105), 3) := by decide +kernel
theorem dX7_gathers_130 : decode cX7_gathers 130 = .ok (.iinc 2 1, 3) := by decide +kernel
theorem dX7_gathers_133 : decode cX7_gathers 133 = .ok (.goto (-126), 3) := by decide +kernel
theorem dX7_gathers_136 : decode cX7_gathers 136 = .ok (.iconst 0, 1) := by decide +kernel
theorem dX7_gathers_137 : decode cX7_gathers 137 = .ok (.istore_n 2, 1) := by decide +kernel
theorem dX7_gathers_138 : decode cX7_gathers 138 = .ok (.iload_n 2, 1) := by decide +kernel
theorem dX7_gathers_139 : decode cX7_gathers 139 = .ok (.aload_n 0, 1) := by decide +kernel
theorem dX7_gathers_140 : decode cX7_gathers 140 = .ok (.getfield 88, 3) := by decide +kernel
theorem dX7_gathers_143 : decode cX7_gathers 143 = .ok (.if_icmp .ge 46, 3) := by decide +kernel
theorem dX7_gathers_146 : decode cX7_gathers 146 = .ok (.iconst 0, 1) := by decide +kernel
theorem dX7_gathers_147 : decode cX7_gathers 147 = .ok (.istore_n 3, 1) := by decide +kernel
theorem dX7_gathers_148 : decode cX7_gathers 148 = .ok (.iload_n 3, 1) := by decide +kernel
theorem dX7_gathers_149 : decode cX7_gathers 149 = .ok (.iconst 3, 1) := by decide +kernel
theorem dX7_gathers_150 : decode cX7_gathers 150 = .ok (.if_icmp .ge 33, 3) := by decide +kernel
theorem dX7_gathers_153 : decode cX7_gathers 153 = .ok (.aload_n 0, 1) := by decide +kernel
theorem dX7_gathers_154 : decode cX7_gathers 154 = .ok (.getfield 53, 3) := by decide +kernel
theorem dX7_gathers_157 : decode cX7_gathers 157 = .ok (.iconst 3, 1) := by decide +kernel
theorem dX7_gathers_158 : decode cX7_gathers 158 = .ok (.iload_n 2, 1) := by decide +kernel
theorem dX7_gathers_159 : decode cX7_gathers 159 = .ok (.imul, 1) := by decide +kernel
theorem dX7_gathers_160 : decode cX7_gathers 160 = .ok (.iload_n 3, 1) := by decide +kernel
theorem dX7_gathers_161 : decode cX7_gathers 161 = .ok (.iadd, 1) := by decide +kernel
theorem dX7_gathers_162 : decode cX7_gathers 162 = .ok (.aload_n 0, 1) := by decide +kernel
theorem dX7_gathers_163 : decode cX7_gathers 163 = .ok (.iconst 2, 1) := by decide +kernel
theorem dX7_gathers_164 : decode cX7_gathers 164 = .ok (.iload_n 2, 1) := by decide +kernel
theorem dX7_gathers_165 : decode cX7_gathers 165 = .ok (.aload_n 0, 1) := by decide +kernel
theorem dX7_gathers_166 : decode cX7_gathers 166 = .ok (.getfield 35, 3) := by decide +kernel
theorem dX7_gathers_169 : decode cX7_gathers 169 = .ok (.iload_n 2, 1) := by decide +kernel
theorem dX7_gathers_170 : decode cX7_gathers 170 = .ok (.iaload, 1) := by decide +kernel
theorem dX7_gathers_171 : decode cX7_gathers 171 = .ok (.iload_n 3, 1) := by decide +kernel
theorem dX7_gathers_172 : decode cX7_gathers 172 = .ok (.iconst 0, 1) := by decide +kernel
theorem dX7_gathers_173 : decode cX7_gathers 173 = .ok (.invokevirtual 260, 3) := by decide +kernel
theorem dX7_gathers_176 : decode cX7_gathers 176 = .ok (.iastore, 1) := by decide +kernel
theorem dX7_gathers_177 : decode cX7_gathers 177 = .ok (.iinc 3 1, 3) := by decide +kernel
theorem dX7_gathers_180 : decode cX7_gathers 180 = .ok (.goto (-32), 3) := by decide +kernel
theorem dX7_gathers_183 : decode cX7_gathers 183 = .ok (.iinc 2 1, 3) := by decide +kernel
theorem dX7_gathers_186 : decode cX7_gathers 186 = .ok (.goto (-48), 3) := by decide +kernel
theorem dX7_gathers_189 : decode cX7_gathers 189 = .ok (.return_, 1) := by decide +kernel
theorem dX7_image_0 : decode cX7_image 0 = .ok (.iconst 0, 1) := by decide +kernel
theorem dX7_image_1 : decode cX7_image 1 = .ok (.istore_n 1, 1) := by decide +kernel
theorem dX7_image_2 : decode cX7_image 2 = .ok (.iload_n 1, 1) := by decide +kernel
theorem dX7_image_3 : decode cX7_image 3 = .ok (.iconst 5, 1) := by decide +kernel
theorem dX7_image_4 : decode cX7_image 4 = .ok (.if_icmp .ge 80, 3) := by decide +kernel
theorem dX7_image_7 : decode cX7_image 7 = .ok (.aload_n 0, 1) := by decide +kernel
theorem dX7_image_8 : decode cX7_image 8 = .ok (.getfield 62, 3) := by decide +kernel
theorem dX7_image_11 : decode cX7_image 11 = .ok (.iload_n 1, 1) := by decide +kernel
theorem dX7_image_12 : decode cX7_image 12 = .ok (.aload_n 0, 1) := by decide +kernel
theorem dX7_image_13 : decode cX7_image 13 = .ok (.getfield 29, 3) := by decide +kernel
theorem dX7_image_16 : decode cX7_image 16 = .ok (.iload_n 1, 1) := by decide +kernel
theorem dX7_image_17 : decode cX7_image 17 = .ok (.iaload, 1) := by decide +kernel
theorem dX7_image_18 : decode cX7_image 18 = .ok (.iastore, 1) := by decide +kernel
theorem dX7_image_19 : decode cX7_image 19 = .ok (.aload_n 0, 1) := by decide +kernel
theorem dX7_image_20 : decode cX7_image 20 = .ok (.getfield 62, 3) := by decide +kernel
theorem dX7_image_23 : decode cX7_image 23 = .ok (.iconst 5, 1) := by decide +kernel
theorem dX7_image_24 : decode cX7_image 24 = .ok (.iload_n 1, 1) := by decide +kernel
theorem dX7_image_25 : decode cX7_image 25 = .ok (.iadd, 1) := by decide +kernel
theorem dX7_image_26 : decode cX7_image 26 = .ok (.aload_n 0, 1) := by decide +kernel
theorem dX7_image_27 : decode cX7_image 27 = .ok (.getfield 32, 3) := by decide +kernel
theorem dX7_image_30 : decode cX7_image 30 = .ok (.iload_n 1, 1) := by decide +kernel
theorem dX7_image_31 : decode cX7_image 31 = .ok (.iaload, 1) := by decide +kernel
theorem dX7_image_32 : decode cX7_image 32 = .ok (.iastore, 1) := by decide +kernel
theorem dX7_image_33 : decode cX7_image 33 = .ok (.aload_n 0, 1) := by decide +kernel
theorem dX7_image_34 : decode cX7_image 34 = .ok (.getfield 62, 3) := by decide +kernel
theorem dX7_image_37 : decode cX7_image 37 = .ok (.bipush 10, 2) := by decide +kernel
theorem dX7_image_39 : decode cX7_image 39 = .ok (.iload_n 1, 1) := by decide +kernel
theorem dX7_image_40 : decode cX7_image 40 = .ok (.iadd, 1) := by decide +kernel
theorem dX7_image_41 : decode cX7_image 41 = .ok (.aload_n 0, 1) := by decide +kernel
theorem dX7_image_42 : decode cX7_image 42 = .ok (.getfield 38, 3) := by decide +kernel
theorem dX7_image_45 : decode cX7_image 45 = .ok (.iload_n 1, 1) := by decide +kernel
theorem dX7_image_46 : decode cX7_image 46 = .ok (.iaload, 1) := by decide +kernel
theorem dX7_image_47 : decode cX7_image 47 = .ok (.iastore, 1) := by decide +kernel
theorem dX7_image_48 : decode cX7_image 48 = .ok (.aload_n 0, 1) := by decide +kernel
theorem dX7_image_49 : decode cX7_image 49 = .ok (.getfield 62, 3) := by decide +kernel
theorem dX7_image_52 : decode cX7_image 52 = .ok (.bipush 15, 2) := by decide +kernel
theorem dX7_image_54 : decode cX7_image 54 = .ok (.iload_n 1, 1) := by decide +kernel
theorem dX7_image_55 : decode cX7_image 55 = .ok (.iadd, 1) := by decide +kernel
theorem dX7_image_56 : decode cX7_image 56 = .ok (.aload_n 0, 1) := by decide +kernel
theorem dX7_image_57 : decode cX7_image 57 = .ok (.getfield 41, 3) := by decide +kernel
theorem dX7_image_60 : decode cX7_image 60 = .ok (.iload_n 1, 1) := by decide +kernel
theorem dX7_image_61 : decode cX7_image 61 = .ok (.iaload, 1) := by decide +kernel
theorem dX7_image_62 : decode cX7_image 62 = .ok (.iastore, 1) := by decide +kernel
theorem dX7_image_63 : decode cX7_image 63 = .ok (.aload_n 0, 1) := by decide +kernel
theorem dX7_image_64 : decode cX7_image 64 = .ok (.getfield 62, 3) := by decide +kernel
theorem dX7_image_67 : decode cX7_image 67 = .ok (.bipush 20, 2) := by decide +kernel
theorem dX7_image_69 : decode cX7_image 69 = .ok (.iload_n 1, 1) := by decide +kernel
theorem dX7_image_70 : decode cX7_image 70 = .ok (.iadd, 1) := by decide +kernel
theorem dX7_image_71 : decode cX7_image 71 = .ok (.aload_n 0, 1) := by decide +kernel
theorem dX7_image_72 : decode cX7_image 72 = .ok (.getfield 44, 3) := by decide +kernel
theorem dX7_image_75 : decode cX7_image 75 = .ok (.iload_n 1, 1) := by decide +kernel
theorem dX7_image_76 : decode cX7_image 76 = .ok (.iaload, 1) := by decide +kernel
theorem dX7_image_77 : decode cX7_image 77 = .ok (.iastore, 1) := by decide +kernel
theorem dX7_image_78 : decode cX7_image 78 = .ok (.iinc 1 1, 3) := by decide +kernel
theorem dX7_image_81 : decode cX7_image 81 = .ok (.goto (-79), 3) := by decide +kernel
theorem dX7_image_84 : decode cX7_image 84 = .ok (.aload_n 0, 1) := by decide +kernel
theorem dX7_image_85 : decode cX7_image 85 = .ok (.aload_n 0, 1) := by decide +kernel
theorem dX7_image_86 : decode cX7_image 86 = .ok (.getfield 88, 3) := by decide +kernel
theorem dX7_image_89 : decode cX7_image 89 = .ok (.putfield 65, 3) := by decide +kernel
theorem dX7_image_92 : decode cX7_image 92 = .ok (.aload_n 0, 1) := by decide +kernel
theorem dX7_image_93 : decode cX7_image 93 = .ok (.aload_n 0, 1) := by decide +kernel
theorem dX7_image_94 : decode cX7_image 94 = .ok (.getfield 23, 3) := by decide +kernel
theorem dX7_image_97 : decode cX7_image 97 = .ok (.putfield 350, 3) := by decide +kernel
theorem dX7_image_100 : decode cX7_image 100 = .ok (.aload_n 0, 1) := by decide +kernel
theorem dX7_image_101 : decode cX7_image 101 = .ok (.aload_n 0, 1) := by decide +kernel
theorem dX7_image_102 : decode cX7_image 102 = .ok (.getfield 247, 3) := by decide +kernel
theorem dX7_image_105 : decode cX7_image 105 = .ok (.putfield 353, 3) := by decide +kernel
theorem dX7_image_108 : decode cX7_image 108 = .ok (.aload_n 0, 1) := by decide +kernel
theorem dX7_image_109 : decode cX7_image 109 = .ok (.getfield 88, 3) := by decide +kernel
theorem dX7_image_112 : decode cX7_image 112 = .ok (.ireturn, 1) := by decide +kernel
theorem dX7_in_0 : decode cX7_in 0 = .ok (.lload_n 0, 1) := by decide +kernel
theorem dX7_in_1 : decode cX7_in 1 = .ok (.lload_n 2, 1) := by decide +kernel
theorem dX7_in_2 : decode cX7_in 2 = .ok (.lcmp, 1) := by decide +kernel
theorem dX7_in_3 : decode cX7_in 3 = .ok (.ifCond .lt 14, 3) := by decide +kernel
theorem dX7_in_6 : decode cX7_in 6 = .ok (.lload_n 0, 1) := by decide +kernel
theorem dX7_in_7 : decode cX7_in 7 = .ok (.lload 4, 2) := by decide +kernel
theorem dX7_in_9 : decode cX7_in 9 = .ok (.lcmp, 1) := by decide +kernel
theorem dX7_in_10 : decode cX7_in 10 = .ok (.ifCond .gt 7, 3) := by decide +kernel
theorem dX7_in_13 : decode cX7_in 13 = .ok (.iconst 1, 1) := by decide +kernel
theorem dX7_in_14 : decode cX7_in 14 = .ok (.goto 4, 3) := by decide +kernel
theorem dX7_in_17 : decode cX7_in 17 = .ok (.iconst 0, 1) := by decide +kernel
theorem dX7_in_18 : decode cX7_in 18 = .ok (.ireturn, 1) := by decide +kernel
theorem dX7_init_0 : decode cX7_init 0 = .ok (.aload_n 0, 1) := by decide +kernel
theorem dX7_init_1 : decode cX7_init 1 = .ok (.invokespecial 7, 3) := by decide +kernel
theorem dX7_init_4 : decode cX7_init 4 = .ok (.aload_n 0, 1) := by decide +kernel
theorem dX7_init_5 : decode cX7_init 5 = .ok (.sipush 960, 3) := by decide +kernel
theorem dX7_init_8 : decode cX7_init 8 = .ok (.newarray .int, 2) := by decide +kernel
theorem dX7_init_10 : decode cX7_init 10 = .ok (.putfield 13, 3) := by decide +kernel
theorem dX7_init_13 : decode cX7_init 13 = .ok (.aload_n 0, 1) := by decide +kernel
theorem dX7_init_14 : decode cX7_init 14 = .ok (.bipush 6, 2) := by decide +kernel
theorem dX7_init_16 : decode cX7_init 16 = .ok (.newarray .int, 2) := by decide +kernel
theorem dX7_init_18 : decode cX7_init 18 = .ok (.putfield 17, 3) := by decide +kernel
theorem dX7_init_21 : decode cX7_init 21 = .ok (.aload_n 0, 1) := by decide +kernel
theorem dX7_init_22 : decode cX7_init 22 = .ok (.sipush 160, 3) := by decide +kernel
theorem dX7_init_25 : decode cX7_init 25 = .ok (.newarray .int, 2) := by decide +kernel
theorem dX7_init_27 : decode cX7_init 27 = .ok (.putfield 20, 3) := by decide +kernel
theorem dX7_init_30 : decode cX7_init 30 = .ok (.aload_n 0, 1) := by decide +kernel
theorem dX7_init_31 : decode cX7_init 31 = .ok (.iconst 1, 1) := by decide +kernel
theorem dX7_init_32 : decode cX7_init 32 = .ok (.putfield 23, 3) := by decide +kernel
theorem dX7_init_35 : decode cX7_init 35 = .ok (.aload_n 0, 1) := by decide +kernel
theorem dX7_init_36 : decode cX7_init 36 = .ok (.iconst 5, 1) := by decide +kernel
theorem dX7_init_37 : decode cX7_init 37 = .ok (.newarray .int, 2) := by decide +kernel
theorem dX7_init_39 : decode cX7_init 39 = .ok (.putfield 26, 3) := by decide +kernel
theorem dX7_init_42 : decode cX7_init 42 = .ok (.aload_n 0, 1) := by decide +kernel
theorem dX7_init_43 : decode cX7_init 43 = .ok (.iconst 5, 1) := by decide +kernel
theorem dX7_init_44 : decode cX7_init 44 = .ok (.newarray .int, 2) := by decide +kernel
theorem dX7_init_46 : decode cX7_init 46 = .ok (.putfield 29, 3) := by decide +kernel
theorem dX7_init_49 : decode cX7_init 49 = .ok (.aload_n 0, 1) := by decide +kernel
theorem dX7_init_50 : decode cX7_init 50 = .ok (.iconst 5, 1) := by decide +kernel
theorem dX7_init_51 : decode cX7_init 51 = .ok (.newarray .int, 2) := by decide +kernel
theorem dX7_init_53 : decode cX7_init 53 = .ok (.putfield 32, 3) := by decide +kernel
theorem dX7_init_56 : decode cX7_init 56 = .ok (.aload_n 0, 1) := by decide +kernel
theorem dX7_init_57 : decode cX7_init 57 = .ok (.iconst 5, 1) := by decide +kernel
theorem dX7_init_58 : decode cX7_init 58 = .ok (.newarray .int, 2) := by decide +kernel
theorem dX7_init_60 : decode cX7_init 60 = .ok (.putfield 35, 3) := by decide +kernel
theorem dX7_init_63 : decode cX7_init 63 = .ok (.aload_n 0, 1) := by decide +kernel
theorem dX7_init_64 : decode cX7_init 64 = .ok (.iconst 5, 1) := by decide +kernel
theorem dX7_init_65 : decode cX7_init 65 = .ok (.newarray .int, 2) := by decide +kernel
theorem dX7_init_67 : decode cX7_init 67 = .ok (.putfield 38, 3) := by decide +kernel
theorem dX7_init_70 : decode cX7_init 70 = .ok (.aload_n 0, 1) := by decide +kernel
theorem dX7_init_71 : decode cX7_init 71 = .ok (.iconst 5, 1) := by decide +kernel
theorem dX7_init_72 : decode cX7_init 72 = .ok (.newarray .int, 2) := by decide +kernel
theorem dX7_init_74 : decode cX7_init 74 = .ok (.putfield 41, 3) := by decide +kernel
theorem dX7_init_77 : decode cX7_init 77 = .ok (.aload_n 0, 1) := by decide +kernel
theorem dX7_init_78 : decode cX7_init 78 = .ok (.iconst 5, 1) := by decide +kernel
theorem dX7_init_79 : decode cX7_init 79 = .ok (.newarray .int, 2) := by decide +kernel
theorem dX7_init_81 : decode cX7_init 81 = .ok (.putfield 44, 3) := by decide +kernel
theorem dX7_init_84 : decode cX7_init 84 = .ok (.aload_n 0, 1) := by decide +kernel
theorem dX7_init_85 : decode cX7_init 85 = .ok (.sipush 150, 3) := by decide +kernel
theorem dX7_init_88 : decode cX7_init 88 = .ok (.newarray .int, 2) := by decide +kernel
theorem dX7_init_90 : decode cX7_init 90 = .ok (.putfield 47, 3) := by decide +kernel
theorem dX7_init_93 : decode cX7_init 93 = .ok (.aload_n 0, 1) := by decide +kernel
theorem dX7_init_94 : decode cX7_init 94 = .ok (.sipush 150, 3) := by decide +kernel
theorem dX7_init_97 : decode cX7_init 97 = .ok (.newarray .int, 2) := by decide +kernel
theorem dX7_init_99 : decode cX7_init 99 = .ok (.putfield 50, 3) := by decide +kernel
theorem dX7_init_102 : decode cX7_init 102 = .ok (.aload_n 0, 1) := by decide +kernel
theorem dX7_init_103 : decode cX7_init 103 = .ok (.bipush 15, 2) := by decide +kernel
theorem dX7_init_105 : decode cX7_init 105 = .ok (.newarray .int, 2) := by decide +kernel
theorem dX7_init_107 : decode cX7_init 107 = .ok (.putfield 53, 3) := by decide +kernel
theorem dX7_init_110 : decode cX7_init 110 = .ok (.aload_n 0, 1) := by decide +kernel
theorem dX7_init_111 : decode cX7_init 111 = .ok (.iconst 5, 1) := by decide +kernel
theorem dX7_init_112 : decode cX7_init 112 = .ok (.newarray .int, 2) := by decide +kernel
theorem dX7_init_114 : decode cX7_init 114 = .ok (.putfield 56, 3) := by decide +kernel
theorem dX7_init_117 : decode cX7_init 117 = .ok (.aload_n 0, 1) := by decide +kernel
theorem dX7_init_118 : decode cX7_init 118 = .ok (.iconst 5, 1) := by decide +kernel
theorem dX7_init_119 : decode cX7_init 119 = .ok (.newarray .int, 2) := by decide +kernel
theorem dX7_init_121 : decode cX7_init 121 = .ok (.putfield 59, 3) := by decide +kernel
theorem dX7_init_124 : decode cX7_init 124 = .ok (.aload_n 0, 1) := by decide +kernel
theorem dX7_init_125 : decode cX7_init 125 = .ok (.bipush 25, 2) := by decide +kernel
theorem dX7_init_127 : decode cX7_init 127 = .ok (.newarray .int, 2) := by decide +kernel
theorem dX7_init_129 : decode cX7_init 129 = .ok (.putfield 62, 3) := by decide +kernel
theorem dX7_init_132 : decode cX7_init 132 = .ok (.aload_n 0, 1) := by decide +kernel
theorem dX7_init_133 : decode cX7_init 133 = .ok (.iconst (-1), 1) := by decide +kernel
theorem dX7_init_134 : decode cX7_init 134 = .ok (.putfield 65, 3) := by decide +kernel
theorem dX7_init_137 : decode cX7_init 137 = .ok (.aload_n 0, 1) := by decide +kernel
theorem dX7_init_138 : decode cX7_init 138 = .ok (.iconst 4, 1) := by decide +kernel
theorem dX7_init_139 : decode cX7_init 139 = .ok (.newarray .boolean, 2) := by decide +kernel
theorem dX7_init_141 : decode cX7_init 141 = .ok (.putfield 68, 3) := by decide +kernel
theorem dX7_init_144 : decode cX7_init 144 = .ok (.aload_n 0, 1) := by decide +kernel
theorem dX7_init_145 : decode cX7_init 145 = .ok (.iconst 4, 1) := by decide +kernel
theorem dX7_init_146 : decode cX7_init 146 = .ok (.newarray .int, 2) := by decide +kernel
theorem dX7_init_148 : decode cX7_init 148 = .ok (.putfield 72, 3) := by decide +kernel
theorem dX7_init_151 : decode cX7_init 151 = .ok (.aload_n 0, 1) := by decide +kernel
theorem dX7_init_152 : decode cX7_init 152 = .ok (.iconst 4, 1) := by decide +kernel
theorem dX7_init_153 : decode cX7_init 153 = .ok (.newarray .int, 2) := by decide +kernel
theorem dX7_init_155 : decode cX7_init 155 = .ok (.putfield 75, 3) := by decide +kernel
theorem dX7_init_158 : decode cX7_init 158 = .ok (.aload_n 0, 1) := by decide +kernel
theorem dX7_init_159 : decode cX7_init 159 = .ok (.sipush 160, 3) := by decide +kernel
theorem dX7_init_162 : decode cX7_init 162 = .ok (.newarray .int, 2) := by decide +kernel
theorem dX7_init_164 : decode cX7_init 164 = .ok (.putfield 78, 3) := by decide +kernel
theorem dX7_init_167 : decode cX7_init 167 = .ok (.aload_n 0, 1) := by decide +kernel
theorem dX7_init_168 : decode cX7_init 168 = .ok (.iconst 0, 1) := by decide +kernel
theorem dX7_init_169 : decode cX7_init 169 = .ok (.bipush 115, 2) := by decide +kernel
theorem dX7_init_171 : decode cX7_init 171 = .ok (.bipush 116, 2) := by decide +kernel
theorem dX7_init_173 : decode cX7_init 173 = .ok (.bipush 101, 2) := by decide +kernel
theorem dX7_init_175 : decode cX7_init 175 = .ok (.bipush 112, 2) := by decide +kernel
theorem dX7_init_177 : decode cX7_init 177 = .ok (.bipush 115, 2) := by decide +kernel
theorem dX7_init_179 : decode cX7_init 179 = .ok (.bipush 32, 2) := by decide +kernel
theorem dX7_init_181 : decode cX7_init 181 = .ok (.bipush 53, 2) := by decide +kernel
theorem dX7_init_183 : decode cX7_init 183 = .ok (.bipush 32, 2) := by decide +kernel
theorem dX7_init_185 : decode cX7_init 185 = .ok (.invokevirtual 81, 3) := by decide +kernel
theorem dX7_init_188 : decode cX7_init 188 = .ok (.aload_n 0, 1) := by decide +kernel
theorem dX7_init_189 : decode cX7_init 189 = .ok (.bipush 8, 2) := by decide +kernel
theorem dX7_init_191 : decode cX7_init 191 = .ok (.bipush 59, 2) := by decide +kernel
theorem dX7_init_193 : decode cX7_init 193 = .ok (.bipush 32, 2) := by decide +kernel
theorem dX7_init_195 : decode cX7_init 195 = .ok (.bipush 108, 2) := by decide +kernel
theorem dX7_init_197 : decode cX7_init 197 = .ok (.bipush 97, 2) := by decide +kernel
theorem dX7_init_199 : decode cX7_init 199 = .ok (.bipush 116, 2) := by decide +kernel
theorem dX7_init_201 : decode cX7_init 201 = .ok (.bipush 101, 2) := by decide +kernel
theorem dX7_init_203 : decode cX7_init 203 = .ok (.bipush 32, 2) := by decide +kernel
theorem dX7_init_205 : decode cX7_init 205 = .ok (.bipush 49, 2) := by decide +kernel
theorem dX7_init_207 : decode cX7_init 207 = .ok (.invokevirtual 81, 3) := by decide +kernel
theorem dX7_init_210 : decode cX7_init 210 = .ok (.aload_n 0, 1) := by decide +kernel
theorem dX7_init_211 : decode cX7_init 211 = .ok (.bipush 16, 2) := by decide +kernel
theorem dX7_init_213 : decode cX7_init 213 = .ok (.bipush 32, 2) := by decide +kernel
theorem dX7_init_215 : decode cX7_init 215 = .ok (.bipush 59, 2) := by decide +kernel
theorem dX7_init_217 : decode cX7_init 217 = .ok (.bipush 32, 2) := by decide +kernel
theorem dX7_init_219 : decode cX7_init 219 = .ok (.bipush 109, 2) := by decide +kernel
theorem dX7_init_221 : decode cX7_init 221 = .ok (.bipush 111, 2) := by decide +kernel
theorem dX7_init_223 : decode cX7_init 223 = .ok (.bipush 118, 2) := by decide +kernel
theorem dX7_init_225 : decode cX7_init 225 = .ok (.bipush 101, 2) := by decide +kernel
theorem dX7_init_227 : decode cX7_init 227 = .ok (.bipush 115, 2) := by decide +kernel
theorem dX7_init_229 : decode cX7_init 229 = .ok (.invokevirtual 81, 3) := by decide +kernel
theorem dX7_init_232 : decode cX7_init 232 = .ok (.aload_n 0, 1) := by decide +kernel
theorem dX7_init_233 : decode cX7_init 233 = .ok (.bipush 24, 2) := by decide +kernel
theorem dX7_init_235 : decode cX7_init 235 = .ok (.bipush 32, 2) := by decide +kernel
theorem dX7_init_237 : decode cX7_init 237 = .ok (.bipush 51, 2) := by decide +kernel
theorem dX7_init_239 : decode cX7_init 239 = .ok (.bipush 32, 2) := by decide +kernel
theorem dX7_init_241 : decode cX7_init 241 = .ok (.bipush 59, 2) := by decide +kernel
theorem dX7_init_243 : decode cX7_init 243 = .ok (.bipush 32, 2) := by decide +kernel
theorem dX7_init_245 : decode cX7_init 245 = .ok (.bipush 32, 2) := by decide +kernel
theorem dX7_init_247 : decode cX7_init 247 = .ok (.bipush 32, 2) := by decide +kernel
theorem dX7_init_249 : decode cX7_init 249 = .ok (.bipush 32, 2) := by decide +kernel
theorem dX7_init_251 : decode cX7_init 251 = .ok (.invokevirtual 81, 3) := by decide +kernel
theorem dX7_init_254 : decode cX7_init 254 = .ok (.aload_n 0, 1) := by decide +kernel
theorem dX7_init_255 : decode cX7_init 255 = .ok (.getfield 17, 3) := by decide +kernel
theorem dX7_init_258 : decode cX7_init 258 = .ok (.iconst 0, 1) := by decide +kernel
theorem dX7_init_259 : decode cX7_init 259 = .ok (.bipush 32, 2) := by decide +kernel
theorem dX7_init_261 : decode cX7_init 261 = .ok (.iastore, 1) := by decide +kernel
theorem dX7_init_262 : decode cX7_init 262 = .ok (.aload_n 0, 1) := by decide +kernel
theorem dX7_init_263 : decode cX7_init 263 = .ok (.iconst 1, 1) := by decide +kernel
theorem dX7_init_264 : decode cX7_init 264 = .ok (.putfield 85, 3) := by decide +kernel
theorem dX7_init_267 : decode cX7_init 267 = .ok (.return_, 1) := by decide +kernel
theorem dX7_insideAt_0 : decode cX7_insideAt 0 = .ok (.iconst 0, 1) := by decide +kernel
theorem dX7_insideAt_1 : decode cX7_insideAt 1 = .ok (.istore_n 2, 1) := by decide +kernel
theorem dX7_insideAt_2 : decode cX7_insideAt 2 = .ok (.iconst 0, 1) := by decide +kernel
theorem dX7_insideAt_3 : decode cX7_insideAt 3 = .ok (.istore_n 3, 1) := by decide +kernel
theorem dX7_insideAt_4 : decode cX7_insideAt 4 = .ok (.iload_n 3, 1) := by decide +kernel
theorem dX7_insideAt_5 : decode cX7_insideAt 5 = .ok (.aload_n 0, 1) := by decide +kernel
theorem dX7_insideAt_6 : decode cX7_insideAt 6 = .ok (.getfield 88, 3) := by decide +kernel
theorem dX7_insideAt_9 : decode cX7_insideAt 9 = .ok (.if_icmp .ge 49, 3) := by decide +kernel
theorem dX7_insideAt_12 : decode cX7_insideAt 12 = .ok (.iload_n 2, 1) := by decide +kernel
theorem dX7_insideAt_13 : decode cX7_insideAt 13 = .ok (.aload_n 0, 1) := by decide +kernel
theorem dX7_insideAt_14 : decode cX7_insideAt 14 = .ok (.getfield 254, 3) := by decide +kernel
theorem dX7_insideAt_17 : decode cX7_insideAt 17 = .ok (.iload_n 3, 1) := by decide +kernel
theorem dX7_insideAt_18 : decode cX7_insideAt 18 = .ok (.ishr, 1) := by decide +kernel
theorem dX7_insideAt_19 : decode cX7_insideAt 19 = .ok (.iconst 1, 1) := by decide +kernel
theorem dX7_insideAt_20 : decode cX7_insideAt 20 = .ok (.iand, 1) := by decide +kernel
theorem dX7_insideAt_21 : decode cX7_insideAt 21 = .ok (.iconst 1, 1) := by decide +kernel
theorem dX7_insideAt_22 : decode cX7_insideAt 22 = .ok (.if_icmp .ne 27, 3) := by decide +kernel
theorem dX7_insideAt_25 : decode cX7_insideAt 25 = .ok (.aload_n 0, 1) := by decide +kernel
theorem dX7_insideAt_26 : decode cX7_insideAt 26 = .ok (.getfield 35, 3) := by decide +kernel
theorem dX7_insideAt_29 : decode cX7_insideAt 29 = .ok (.iload_n 3, 1) := by decide +kernel
theorem dX7_insideAt_30 : decode cX7_insideAt 30 = .ok (.iaload, 1) := by decide +kernel
theorem dX7_insideAt_31 : decode cX7_insideAt 31 = .ok (.iload_n 1, 1) := by decide +kernel
theorem dX7_insideAt_32 : decode cX7_insideAt 32 = .ok (.if_icmp .ge 17, 3) := by decide +kernel
theorem dX7_insideAt_35 : decode cX7_insideAt 35 = .ok (.aload_n 0, 1) := by decide +kernel
theorem dX7_insideAt_36 : decode cX7_insideAt 36 = .ok (.getfield 38, 3) := by decide +kernel
theorem dX7_insideAt_39 : decode cX7_insideAt 39 = .ok (.iload_n 3, 1) := by decide +kernel
theorem dX7_insideAt_40 : decode cX7_insideAt 40 = .ok (.iaload, 1) := by decide +kernel
theorem dX7_insideAt_41 : decode cX7_insideAt 41 = .ok (.iload_n 1, 1) := by decide +kernel
theorem dX7_insideAt_42 : decode cX7_insideAt 42 = .ok (.if_icmp .lt 7, 3) := by decide +kernel
theorem dX7_insideAt_45 : decode cX7_insideAt 45 = .ok (.iconst 1, 1) := by decide +kernel
theorem dX7_insideAt_46 : decode cX7_insideAt 46 = .ok (.goto 4, 3) := by decide +kernel
theorem dX7_insideAt_49 : decode cX7_insideAt 49 = .ok (.iconst 0, 1) := by decide +kernel
theorem dX7_insideAt_50 : decode cX7_insideAt 50 = .ok (.iadd, 1) := by decide +kernel
theorem dX7_insideAt_51 : decode cX7_insideAt 51 = .ok (.istore_n 2, 1) := by decide +kernel
theorem dX7_insideAt_52 : decode cX7_insideAt 52 = .ok (.iinc 3 1, 3) := by decide +kernel
theorem dX7_insideAt_55 : decode cX7_insideAt 55 = .ok (.goto (-51), 3) := by decide +kernel
theorem dX7_insideAt_58 : decode cX7_insideAt 58 = .ok (.iload_n 2, 1) := by decide +kernel
theorem dX7_insideAt_59 : decode cX7_insideAt 59 = .ok (.ireturn, 1) := by decide +kernel
theorem dX7_isLetter_0 : decode cX7_isLetter 0 = .ok (.aload_n 0, 1) := by decide +kernel
theorem dX7_isLetter_1 : decode cX7_isLetter 1 = .ok (.getfield 146, 3) := by decide +kernel
theorem dX7_isLetter_4 : decode cX7_isLetter 4 = .ok (.iload_n 1, 1) := by decide +kernel
theorem dX7_isLetter_5 : decode cX7_isLetter 5 = .ok (.iadd, 1) := by decide +kernel
theorem dX7_isLetter_6 : decode cX7_isLetter 6 = .ok (.aload_n 0, 1) := by decide +kernel
theorem dX7_isLetter_7 : decode cX7_isLetter 7 = .ok (.getfield 139, 3) := by decide +kernel
theorem dX7_isLetter_10 : decode cX7_isLetter 10 = .ok (.if_icmp .ge 25, 3) := by decide +kernel
theorem dX7_isLetter_13 : decode cX7_isLetter 13 = .ok (.aload_n 0, 1) := by decide +kernel
theorem dX7_isLetter_14 : decode cX7_isLetter 14 = .ok (.aload_n 0, 1) := by decide +kernel
theorem dX7_isLetter_15 : decode cX7_isLetter 15 = .ok (.getfield 146, 3) := by decide +kernel
theorem dX7_isLetter_18 : decode cX7_isLetter 18 = .ok (.iload_n 1, 1) := by decide +kernel
theorem dX7_isLetter_19 : decode cX7_isLetter 19 = .ok (.iadd, 1) := by decide +kernel
theorem dX7_isLetter_20 : decode cX7_isLetter 20 = .ok (.invokevirtual 142, 3) := by decide +kernel
theorem dX7_isLetter_23 : decode cX7_isLetter 23 = .ok (.iload_n 2, 1) := by decide +kernel
theorem dX7_isLetter_24 : decode cX7_isLetter 24 = .ok (.if_icmp .ne 7, 3) := by decide +kernel
theorem dX7_isLetter_27 : decode cX7_isLetter 27 = .ok (.iconst 1, 1) := by decide +kernel
theorem dX7_isLetter_28 : decode cX7_isLetter 28 = .ok (.goto 16, 3) := by decide +kernel
theorem dX7_isLetter_31 : decode cX7_isLetter 31 = .ok (.iconst 0, 1) := by decide +kernel
theorem dX7_isLetter_32 : decode cX7_isLetter 32 = .ok (.goto 12, 3) := by decide +kernel
theorem dX7_isLetter_35 : decode cX7_isLetter 35 = .ok (.iload_n 2, 1) := by decide +kernel
theorem dX7_isLetter_36 : decode cX7_isLetter 36 = .ok (.ifCond .ne 7, 3) := by decide +kernel
theorem dX7_isLetter_39 : decode cX7_isLetter 39 = .ok (.iconst 1, 1) := by decide +kernel
theorem dX7_isLetter_40 : decode cX7_isLetter 40 = .ok (.goto 4, 3) := by decide +kernel
theorem dX7_isLetter_43 : decode cX7_isLetter 43 = .ok (.iconst 0, 1) := by decide +kernel
theorem dX7_isLetter_44 : decode cX7_isLetter 44 = .ok (.ireturn, 1) := by decide +kernel
theorem dX7_isRider_0 : decode cX7_isRider 0 = .ok (.iload_n 1, 1) := by decide +kernel
theorem dX7_isRider_1 : decode cX7_isRider 1 = .ok (.i2l, 1) := by decide +kernel
theorem dX7_isRider_2 : decode cX7_isRider 2 = .ok (.lconst 0, 1) := by decide +kernel
theorem dX7_isRider_3 : decode cX7_isRider 3 = .ok (.aload_n 0, 1) := by decide +kernel
theorem dX7_isRider_4 : decode cX7_isRider 4 = .ok (.getfield 88, 3) := by decide +kernel
theorem dX7_isRider_7 : decode cX7_isRider 7 = .ok (.iconst 1, 1) := by decide +kernel
theorem dX7_isRider_8 : decode cX7_isRider 8 = .ok (.isub, 1) := by decide +kernel
theorem dX7_isRider_9 : decode cX7_isRider 9 = .ok (.i2l, 1) := by decide +kernel
theorem dX7_isRider_10 : decode cX7_isRider 10 = .ok (.invokestatic 91, 3) := by decide +kernel
theorem dX7_isRider_13 : decode cX7_isRider 13 = .ok (.ireturn, 1) := by decide +kernel
theorem dX7_isSheet_0 : decode cX7_isSheet 0 = .ok (.iload_n 0, 1) := by decide +kernel
theorem dX7_isSheet_1 : decode cX7_isSheet 1 = .ok (.i2l, 1) := by decide +kernel
theorem dX7_isSheet_2 : decode cX7_isSheet 2 = .ok (.lconst 0, 1) := by decide +kernel
theorem dX7_isSheet_3 : decode cX7_isSheet 3 = .ok (.ldc2_w 358, 3) := by decide +kernel
theorem dX7_isSheet_6 : decode cX7_isSheet 6 = .ok (.invokestatic 91, 3) := by decide +kernel
theorem dX7_isSheet_9 : decode cX7_isSheet 9 = .ok (.ireturn, 1) := by decide +kernel
theorem dX7_isSign_0 : decode cX7_isSign 0 = .ok (.aload_n 0, 1) := by decide +kernel
theorem dX7_isSign_1 : decode cX7_isSign 1 = .ok (.getfield 166, 3) := by decide +kernel
theorem dX7_isSign_4 : decode cX7_isSign 4 = .ok (.ifCond .ne 25, 3) := by decide +kernel
theorem dX7_isSign_7 : decode cX7_isSign 7 = .ok (.aload_n 0, 1) := by decide +kernel
theorem dX7_isSign_8 : decode cX7_isSign 8 = .ok (.getfield 149, 3) := by decide +kernel
theorem dX7_isSign_11 : decode cX7_isSign 11 = .ok (.iconst 3, 1) := by decide +kernel
theorem dX7_isSign_12 : decode cX7_isSign 12 = .ok (.if_icmp .ne 17, 3) := by decide +kernel
theorem dX7_isSign_15 : decode cX7_isSign 15 = .ok (.aload_n 0, 1) := by decide +kernel
theorem dX7_isSign_16 : decode cX7_isSign 16 = .ok (.getfield 160, 3) := by decide +kernel
theorem dX7_isSign_19 : decode cX7_isSign 19 = .ok (.iload_n 1, 1) := by decide +kernel
theorem dX7_isSign_20 : decode cX7_isSign 20 = .ok (.i2l, 1) := by decide +kernel
theorem dX7_isSign_21 : decode cX7_isSign 21 = .ok (.lcmp, 1) := by decide +kernel
theorem dX7_isSign_22 : decode cX7_isSign 22 = .ok (.ifCond .ne 7, 3) := by decide +kernel
theorem dX7_isSign_25 : decode cX7_isSign 25 = .ok (.iconst 1, 1) := by decide +kernel
theorem dX7_isSign_26 : decode cX7_isSign 26 = .ok (.goto 4, 3) := by decide +kernel
theorem dX7_isSign_29 : decode cX7_isSign 29 = .ok (.iconst 0, 1) := by decide +kernel
theorem dX7_isSign_30 : decode cX7_isSign 30 = .ok (.ireturn, 1) := by decide +kernel
theorem dX7_isWord_0 : decode cX7_isWord 0 = .ok (.aload_n 0, 1) := by decide +kernel
theorem dX7_isWord_1 : decode cX7_isWord 1 = .ok (.getfield 166, 3) := by decide +kernel
theorem dX7_isWord_4 : decode cX7_isWord 4 = .ok (.ifCond .ne 108, 3) := by decide +kernel
theorem dX7_isWord_7 : decode cX7_isWord 7 = .ok (.aload_n 0, 1) := by decide +kernel
theorem dX7_isWord_8 : decode cX7_isWord 8 = .ok (.getfield 149, 3) := by decide +kernel
theorem dX7_isWord_11 : decode cX7_isWord 11 = .ok (.iconst 1, 1) := by decide +kernel
theorem dX7_isWord_12 : decode cX7_isWord 12 = .ok (.if_icmp .ne 100, 3) := by decide +kernel
theorem dX7_isWord_15 : decode cX7_isWord 15 = .ok (.aload_n 0, 1) := by decide +kernel
theorem dX7_isWord_16 : decode cX7_isWord 16 = .ok (.getfield 139, 3) := by decide +kernel
theorem dX7_isWord_19 : decode cX7_isWord 19 = .ok (.aload_n 0, 1) := by decide +kernel
theorem dX7_isWord_20 : decode cX7_isWord 20 = .ok (.getfield 146, 3) := by decide +kernel
theorem dX7_isWord_23 : decode cX7_isWord 23 = .ok (.bipush 8, 2) := by decide +kernel
theorem dX7_isWord_25 : decode cX7_isWord 25 = .ok (.iadd, 1) := by decide +kernel
theorem dX7_isWord_26 : decode cX7_isWord 26 = .ok (.if_icmp .gt 86, 3) := by decide +kernel
theorem dX7_isWord_29 : decode cX7_isWord 29 = .ok (.aload_n 0, 1) := by decide +kernel
theorem dX7_isWord_30 : decode cX7_isWord 30 = .ok (.iconst 0, 1) := by decide +kernel
theorem dX7_isWord_31 : decode cX7_isWord 31 = .ok (.iload_n 1, 1) := by decide +kernel
theorem dX7_isWord_32 : decode cX7_isWord 32 = .ok (.invokevirtual 173, 3) := by decide +kernel
theorem dX7_isWord_35 : decode cX7_isWord 35 = .ok (.ifCond .eq 77, 3) := by decide +kernel
theorem dX7_isWord_38 : decode cX7_isWord 38 = .ok (.aload_n 0, 1) := by decide +kernel
theorem dX7_isWord_39 : decode cX7_isWord 39 = .ok (.iconst 1, 1) := by decide +kernel
theorem dX7_isWord_40 : decode cX7_isWord 40 = .ok (.iload_n 2, 1) := by decide +kernel
theorem dX7_isWord_41 : decode cX7_isWord 41 = .ok (.invokevirtual 173, 3) := by decide +kernel
theorem dX7_isWord_44 : decode cX7_isWord 44 = .ok (.ifCond .eq 68, 3) := by decide +kernel
theorem dX7_isWord_47 : decode cX7_isWord 47 = .ok (.aload_n 0, 1) := by decide +kernel
theorem dX7_isWord_48 : decode cX7_isWord 48 = .ok (.iconst 2, 1) := by decide +kernel
theorem dX7_isWord_49 : decode cX7_isWord 49 = .ok (.iload_n 3, 1) := by decide +kernel
theorem dX7_isWord_50 : decode cX7_isWord 50 = .ok (.invokevirtual 173, 3) := by decide +kernel
theorem dX7_isWord_53 : decode cX7_isWord 53 = .ok (.ifCond .eq 59, 3) := by decide +kernel
theorem dX7_isWord_56 : decode cX7_isWord 56 = .ok (.aload_n 0, 1) := by decide +kernel
theorem dX7_isWord_57 : decode cX7_isWord 57 = .ok (.iconst 3, 1) := by decide +kernel
theorem dX7_isWord_58 : decode cX7_isWord 58 = .ok (.iload 4, 2) := by decide +kernel
theorem dX7_isWord_60 : decode cX7_isWord 60 = .ok (.invokevirtual 173, 3) := by decide +kernel
theorem dX7_isWord_63 : decode cX7_isWord 63 = .ok (.ifCond .eq 49, 3) := by decide +kernel
theorem dX7_isWord_66 : decode cX7_isWord 66 = .ok (.aload_n 0, 1) := by decide +kernel
theorem dX7_isWord_67 : decode cX7_isWord 67 = .ok (.iconst 4, 1) := by decide +kernel
theorem dX7_isWord_68 : decode cX7_isWord 68 = .ok (.iload 5, 2) := by decide +kernel
theorem dX7_isWord_70 : decode cX7_isWord 70 = .ok (.invokevirtual 173, 3) := by decide +kernel
theorem dX7_isWord_73 : decode cX7_isWord 73 = .ok (.ifCond .eq 39, 3) := by decide +kernel
theorem dX7_isWord_76 : decode cX7_isWord 76 = .ok (.aload_n 0, 1) := by decide +kernel
theorem dX7_isWord_77 : decode cX7_isWord 77 = .ok (.iconst 5, 1) := by decide +kernel
theorem dX7_isWord_78 : decode cX7_isWord 78 = .ok (.iload 6, 2) := by decide +kernel
theorem dX7_isWord_80 : decode cX7_isWord 80 = .ok (.invokevirtual 173, 3) := by decide +kernel
theorem dX7_isWord_83 : decode cX7_isWord 83 = .ok (.ifCond .eq 29, 3) := by decide +kernel
theorem dX7_isWord_86 : decode cX7_isWord 86 = .ok (.aload_n 0, 1) := by decide +kernel
theorem dX7_isWord_87 : decode cX7_isWord 87 = .ok (.bipush 6, 2) := by decide +kernel
theorem dX7_isWord_89 : decode cX7_isWord 89 = .ok (.iload 7, 2) := by decide +kernel
theorem dX7_isWord_91 : decode cX7_isWord 91 = .ok (.invokevirtual 173, 3) := by decide +kernel
theorem dX7_isWord_94 : decode cX7_isWord 94 = .ok (.ifCond .eq 18, 3) := by decide +kernel
theorem dX7_isWord_97 : decode cX7_isWord 97 = .ok (.aload_n 0, 1) := by decide +kernel
theorem dX7_isWord_98 : decode cX7_isWord 98 = .ok (.bipush 7, 2) := by decide +kernel
theorem dX7_isWord_100 : decode cX7_isWord 100 = .ok (.iload 8, 2) := by decide +kernel
theorem dX7_isWord_102 : decode cX7_isWord 102 = .ok (.invokevirtual 173, 3) := by decide +kernel
theorem dX7_isWord_105 : decode cX7_isWord 105 = .ok (.ifCond .eq 7, 3) := by decide +kernel
theorem dX7_isWord_108 : decode cX7_isWord 108 = .ok (.iconst 1, 1) := by decide +kernel
theorem dX7_isWord_109 : decode cX7_isWord 109 = .ok (.goto 4, 3) := by decide +kernel
theorem dX7_isWord_112 : decode cX7_isWord 112 = .ok (.iconst 0, 1) := by decide +kernel
theorem dX7_isWord_113 : decode cX7_isWord 113 = .ok (.ireturn, 1) := by decide +kernel
theorem dX7_keeps_0 : decode cX7_keeps 0 = .ok (.iconst 0, 1) := by decide +kernel
theorem dX7_keeps_1 : decode cX7_keeps 1 = .ok (.istore_n 1, 1) := by decide +kernel
theorem dX7_keeps_2 : decode cX7_keeps 2 = .ok (.iload_n 1, 1) := by decide +kernel
theorem dX7_keeps_3 : decode cX7_keeps 3 = .ok (.iconst 5, 1) := by decide +kernel
theorem dX7_keeps_4 : decode cX7_keeps 4 = .ok (.if_icmp .ge 21, 3) := by decide +kernel
theorem dX7_keeps_7 : decode cX7_keeps 7 = .ok (.aload_n 0, 1) := by decide +kernel
theorem dX7_keeps_8 : decode cX7_keeps 8 = .ok (.getfield 56, 3) := by decide +kernel
theorem dX7_keeps_11 : decode cX7_keeps 11 = .ok (.iload_n 1, 1) := by decide +kernel
theorem dX7_keeps_12 : decode cX7_keeps 12 = .ok (.aload_n 0, 1) := by decide +kernel
theorem dX7_keeps_13 : decode cX7_keeps 13 = .ok (.getfield 41, 3) := by decide +kernel
theorem dX7_keeps_16 : decode cX7_keeps 16 = .ok (.iload_n 1, 1) := by decide +kernel
theorem dX7_keeps_17 : decode cX7_keeps 17 = .ok (.iaload, 1) := by decide +kernel
theorem dX7_keeps_18 : decode cX7_keeps 18 = .ok (.iastore, 1) := by decide +kernel
theorem dX7_keeps_19 : decode cX7_keeps 19 = .ok (.iinc 1 1, 3) := by decide +kernel
theorem dX7_keeps_22 : decode cX7_keeps 22 = .ok (.goto (-20), 3) := by decide +kernel
theorem dX7_keeps_25 : decode cX7_keeps 25 = .ok (.return_, 1) := by decide +kernel
theorem dX7_landings_0 : decode cX7_landings 0 = .ok (.aload_n 0, 1) := by decide +kernel
theorem dX7_landings_1 : decode cX7_landings 1 = .ok (.iload_n 1, 1) := by decide +kernel
theorem dX7_landings_2 : decode cX7_landings 2 = .ok (.invokevirtual 332, 3) := by decide +kernel
theorem dX7_landings_5 : decode cX7_landings 5 = .ok (.istore_n 2, 1) := by decide +kernel
theorem dX7_landings_6 : decode cX7_landings 6 = .ok (.iload_n 2, 1) := by decide +kernel
theorem dX7_landings_7 : decode cX7_landings 7 = .ok (.ifCond .ne 11, 3) := by decide +kernel
theorem dX7_landings_10 : decode cX7_landings 10 = .ok (.aload_n 0, 1) := by decide +kernel
theorem dX7_landings_11 : decode cX7_landings 11 = .ok (.iload_n 1, 1) := by decide +kernel
theorem dX7_landings_12 : decode cX7_landings 12 = .ok (.invokevirtual 335, 3) := by decide +kernel
theorem dX7_landings_15 : decode cX7_landings 15 = .ok (.goto 4, 3) := by decide +kernel
theorem dX7_landings_18 : decode cX7_landings 18 = .ok (.iload_n 2, 1) := by decide +kernel
theorem dX7_landings_19 : decode cX7_landings 19 = .ok (.ireturn, 1) := by decide +kernel
theorem dX7_landingsBad_0 : decode cX7_landingsBad 0 = .ok (.iload_n 1, 1) := by decide +kernel
theorem dX7_landingsBad_1 : decode cX7_landingsBad 1 = .ok (.invokestatic 329, 3) := by decide +kernel
theorem dX7_landingsBad_4 : decode cX7_landingsBad 4 = .ok (.ifCond .ne 6, 3) := by decide +kernel
theorem dX7_landingsBad_7 : decode cX7_landingsBad 7 = .ok (.bipush (-2), 2) := by decide +kernel
theorem dX7_landingsBad_9 : decode cX7_landingsBad 9 = .ok (.ireturn, 1) := by decide +kernel
theorem dX7_landingsBad_10 : decode cX7_landingsBad 10 = .ok (.aload_n 0, 1) := by decide +kernel
theorem dX7_landingsBad_11 : decode cX7_landingsBad 11 = .ok (.getfield 68, 3) := by decide +kernel
theorem dX7_landingsBad_14 : decode cX7_landingsBad 14 = .ok (.iload_n 1, 1) := by decide +kernel
theorem dX7_landingsBad_15 : decode cX7_landingsBad 15 = .ok (.baload, 1) := by decide +kernel
theorem dX7_landingsBad_16 : decode cX7_landingsBad 16 = .ok (.ifCond .ne 6, 3) := by decide +kernel
theorem dX7_landingsBad_19 : decode cX7_landingsBad 19 = .ok (.bipush (-11), 2) := by decide +kernel
theorem dX7_landingsBad_21 : decode cX7_landingsBad 21 = .ok (.ireturn, 1) := by decide +kernel
theorem dX7_landingsBad_22 : decode cX7_landingsBad 22 = .ok (.aload_n 0, 1) := by decide +kernel
theorem dX7_landingsBad_23 : decode cX7_landingsBad 23 = .ok (.getfield 75, 3) := by decide +kernel
theorem dX7_landingsBad_26 : decode cX7_landingsBad 26 = .ok (.iload_n 1, 1) := by decide +kernel
theorem dX7_landingsBad_27 : decode cX7_landingsBad 27 = .ok (.iaload, 1) := by decide +kernel
theorem dX7_landingsBad_28 : decode cX7_landingsBad 28 = .ok (.bipush 10, 2) := by decide +kernel
theorem dX7_landingsBad_30 : decode cX7_landingsBad 30 = .ok (.if_icmp .le 8, 3) := by decide +kernel
theorem dX7_landingsBad_33 : decode cX7_landingsBad 33 = .ok (.bipush (-2), 2) := by decide +kernel
theorem dX7_landingsBad_35 : decode cX7_landingsBad 35 = .ok (.goto 4, 3) := by decide +kernel
theorem dX7_landingsBad_38 : decode cX7_landingsBad 38 = .ok (.iconst 0, 1) := by decide +kernel
theorem dX7_landingsBad_39 : decode cX7_landingsBad 39 = .ok (.ireturn, 1) := by decide +kernel
theorem dX7_lays_0 : decode cX7_lays 0 = .ok (.iload_n 2, 1) := by decide +kernel
theorem dX7_lays_1 : decode cX7_lays 1 = .ok (.ifCond .ne 13, 3) := by decide +kernel
theorem dX7_lays_4 : decode cX7_lays 4 = .ok (.aload_n 0, 1) := by decide +kernel
theorem dX7_lays_5 : decode cX7_lays 5 = .ok (.getfield 38, 3) := by decide +kernel
theorem dX7_lays_8 : decode cX7_lays 8 = .ok (.iload_n 1, 1) := by decide +kernel
theorem dX7_lays_9 : decode cX7_lays 9 = .ok (.iload_n 3, 1) := by decide +kernel
theorem dX7_lays_10 : decode cX7_lays 10 = .ok (.iastore, 1) := by decide +kernel
theorem dX7_lays_11 : decode cX7_lays 11 = .ok (.goto 25, 3) := by decide +kernel
theorem dX7_lays_14 : decode cX7_lays 14 = .ok (.iload_n 2, 1) := by decide +kernel
theorem dX7_lays_15 : decode cX7_lays 15 = .ok (.iconst 1, 1) := by decide +kernel
theorem dX7_lays_16 : decode cX7_lays 16 = .ok (.if_icmp .ne 13, 3) := by decide +kernel
theorem dX7_lays_19 : decode cX7_lays 19 = .ok (.aload_n 0, 1) := by decide +kernel
theorem dX7_lays_20 : decode cX7_lays 20 = .ok (.getfield 41, 3) := by decide +kernel
theorem dX7_lays_23 : decode cX7_lays 23 = .ok (.iload_n 1, 1) := by decide +kernel
theorem dX7_lays_24 : decode cX7_lays 24 = .ok (.iload_n 3, 1) := by decide +kernel
theorem dX7_lays_25 : decode cX7_lays 25 = .ok (.iastore, 1) := by decide +kernel
theorem dX7_lays_26 : decode cX7_lays 26 = .ok (.goto 10, 3) := by decide +kernel
theorem dX7_lays_29 : decode cX7_lays 29 = .ok (.aload_n 0, 1) := by decide +kernel
theorem dX7_lays_30 : decode cX7_lays 30 = .ok (.getfield 26, 3) := by decide +kernel
theorem dX7_lays_33 : decode cX7_lays 33 = .ok (.iload_n 1, 1) := by decide +kernel
theorem dX7_lays_34 : decode cX7_lays 34 = .ok (.iload_n 3, 1) := by decide +kernel
theorem dX7_lays_35 : decode cX7_lays 35 = .ok (.iastore, 1) := by decide +kernel
theorem dX7_lays_36 : decode cX7_lays 36 = .ok (.return_, 1) := by decide +kernel
theorem dX7_laysBack_0 : decode cX7_laysBack 0 = .ok (.iconst 0, 1) := by decide +kernel
theorem dX7_laysBack_1 : decode cX7_laysBack 1 = .ok (.istore_n 1, 1) := by decide +kernel
theorem dX7_laysBack_2 : decode cX7_laysBack 2 = .ok (.iload_n 1, 1) := by decide +kernel
theorem dX7_laysBack_3 : decode cX7_laysBack 3 = .ok (.iconst 5, 1) := by decide +kernel
theorem dX7_laysBack_4 : decode cX7_laysBack 4 = .ok (.if_icmp .ge 21, 3) := by decide +kernel
theorem dX7_laysBack_7 : decode cX7_laysBack 7 = .ok (.aload_n 0, 1) := by decide +kernel
theorem dX7_laysBack_8 : decode cX7_laysBack 8 = .ok (.getfield 41, 3) := by decide +kernel
theorem dX7_laysBack_11 : decode cX7_laysBack 11 = .ok (.iload_n 1, 1) := by decide +kernel
theorem dX7_laysBack_12 : decode cX7_laysBack 12 = .ok (.aload_n 0, 1) := by decide +kernel
theorem dX7_laysBack_13 : decode cX7_laysBack 13 = .ok (.getfield 56, 3) := by decide +kernel
theorem dX7_laysBack_16 : decode cX7_laysBack 16 = .ok (.iload_n 1, 1) := by decide +kernel
theorem dX7_laysBack_17 : decode cX7_laysBack 17 = .ok (.iaload, 1) := by decide +kernel
theorem dX7_laysBack_18 : decode cX7_laysBack 18 = .ok (.iastore, 1) := by decide +kernel
theorem dX7_laysBack_19 : decode cX7_laysBack 19 = .ok (.iinc 1 1, 3) := by decide +kernel
theorem dX7_laysBack_22 : decode cX7_laysBack 22 = .ok (.goto (-20), 3) := by decide +kernel
theorem dX7_laysBack_25 : decode cX7_laysBack 25 = .ok (.return_, 1) := by decide +kernel
theorem dX7_lets_0 : decode cX7_lets 0 = .ok (.aload_n 0, 1) := by decide +kernel
theorem dX7_lets_1 : decode cX7_lets 1 = .ok (.iload_n 1, 1) := by decide +kernel
theorem dX7_lets_2 : decode cX7_lets 2 = .ok (.invokevirtual 105, 3) := by decide +kernel
theorem dX7_lets_5 : decode cX7_lets 5 = .ok (.ifCond .eq 16, 3) := by decide +kernel
theorem dX7_lets_8 : decode cX7_lets 8 = .ok (.aload_n 0, 1) := by decide +kernel
theorem dX7_lets_9 : decode cX7_lets 9 = .ok (.iload_n 2, 1) := by decide +kernel
theorem dX7_lets_10 : decode cX7_lets 10 = .ok (.invokevirtual 105, 3) := by decide +kernel
theorem dX7_lets_13 : decode cX7_lets 13 = .ok (.ifCond .eq 8, 3) := by decide +kernel
theorem dX7_lets_16 : decode cX7_lets 16 = .ok (.iload_n 1, 1) := by decide +kernel
theorem dX7_lets_17 : decode cX7_lets 17 = .ok (.iload_n 2, 1) := by decide +kernel
theorem dX7_lets_18 : decode cX7_lets 18 = .ok (.if_icmp .ne 6, 3) := by decide +kernel
theorem dX7_lets_21 : decode cX7_lets 21 = .ok (.bipush (-2), 2) := by decide +kernel
theorem dX7_lets_23 : decode cX7_lets 23 = .ok (.ireturn, 1) := by decide +kernel
theorem dX7_lets_24 : decode cX7_lets 24 = .ok (.aload_n 0, 1) := by decide +kernel
theorem dX7_lets_25 : decode cX7_lets 25 = .ok (.iload_n 1, 1) := by decide +kernel
theorem dX7_lets_26 : decode cX7_lets 26 = .ok (.iload_n 2, 1) := by decide +kernel
theorem dX7_lets_27 : decode cX7_lets 27 = .ok (.invokevirtual 124, 3) := by decide +kernel
theorem dX7_lets_30 : decode cX7_lets 30 = .ok (.ifCond .eq 7, 3) := by decide +kernel
theorem dX7_lets_33 : decode cX7_lets 33 = .ok (.iconst 1, 1) := by decide +kernel
theorem dX7_lets_34 : decode cX7_lets 34 = .ok (.goto 4, 3) := by decide +kernel
theorem dX7_lets_37 : decode cX7_lets 37 = .ok (.iconst 0, 1) := by decide +kernel
theorem dX7_lets_38 : decode cX7_lets 38 = .ok (.ireturn, 1) := by decide +kernel
theorem dX7_lowest_0 : decode cX7_lowest 0 = .ok (.lload_n 0, 1) := by decide +kernel
theorem dX7_lowest_1 : decode cX7_lowest 1 = .ok (.lstore 5, 2) := by decide +kernel
theorem dX7_lowest_3 : decode cX7_lowest 3 = .ok (.lload_n 2, 1) := by decide +kernel
theorem dX7_lowest_4 : decode cX7_lowest 4 = .ok (.lstore 7, 2) := by decide +kernel
theorem dX7_lowest_6 : decode cX7_lowest 6 = .ok (.lload 7, 2) := by decide +kernel
theorem dX7_lowest_8 : decode cX7_lowest 8 = .ok (.lconst 0, 1) := by decide +kernel
theorem dX7_lowest_9 : decode cX7_lowest 9 = .ok (.lcmp, 1) := by decide +kernel
theorem dX7_lowest_10 : decode cX7_lowest 10 = .ok (.ifCond .eq 21, 3) := by decide +kernel
theorem dX7_lowest_13 : decode cX7_lowest 13 = .ok (.lload 5, 2) := by decide +kernel
theorem dX7_lowest_15 : decode cX7_lowest 15 = .ok (.lload 7, 2) := by decide +kernel
theorem dX7_lowest_17 : decode cX7_lowest 17 = .ok (.lrem, 1) := by decide +kernel
theorem dX7_lowest_18 : decode cX7_lowest 18 = .ok (.lstore 9, 2) := by decide +kernel
theorem dX7_lowest_20 : decode cX7_lowest 20 = .ok (.lload 7, 2) := by decide +kernel
theorem dX7_lowest_22 : decode cX7_lowest 22 = .ok (.lstore 5, 2) := by decide +kernel
theorem dX7_lowest_24 : decode cX7_lowest 24 = .ok (.lload 9, 2) := by decide +kernel
theorem dX7_lowest_26 : decode cX7_lowest 26 = .ok (.lstore 7, 2) := by decide +kernel
theorem dX7_lowest_28 : decode cX7_lowest 28 = .ok (.goto (-22), 3) := by decide +kernel
theorem dX7_lowest_31 : decode cX7_lowest 31 = .ok (.iload 4, 2) := by decide +kernel
theorem dX7_lowest_33 : decode cX7_lowest 33 = .ok (.ifCond .ne 10, 3) := by decide +kernel
theorem dX7_lowest_36 : decode cX7_lowest 36 = .ok (.lload_n 0, 1) := by decide +kernel
theorem dX7_lowest_37 : decode cX7_lowest 37 = .ok (.lload 5, 2) := by decide +kernel
theorem dX7_lowest_39 : decode cX7_lowest 39 = .ok (.ldiv, 1) := by decide +kernel
theorem dX7_lowest_40 : decode cX7_lowest 40 = .ok (.goto 7, 3) := by decide +kernel
theorem dX7_lowest_43 : decode cX7_lowest 43 = .ok (.lload_n 2, 1) := by decide +kernel
theorem dX7_lowest_44 : decode cX7_lowest 44 = .ok (.lload 5, 2) := by decide +kernel
theorem dX7_lowest_46 : decode cX7_lowest 46 = .ok (.ldiv, 1) := by decide +kernel
theorem dX7_lowest_47 : decode cX7_lowest 47 = .ok (.lreturn, 1) := by decide +kernel
theorem dX7_mean_0 : decode cX7_mean 0 = .ok (.iload_n 1, 1) := by decide +kernel
theorem dX7_mean_1 : decode cX7_mean 1 = .ok (.i2l, 1) := by decide +kernel
theorem dX7_mean_2 : decode cX7_mean 2 = .ok (.lconst 0, 1) := by decide +kernel
theorem dX7_mean_3 : decode cX7_mean 3 = .ok (.lconst 1, 1) := by decide +kernel
theorem dX7_mean_4 : decode cX7_mean 4 = .ok (.invokestatic 91, 3) := by decide +kernel
theorem dX7_mean_7 : decode cX7_mean 7 = .ok (.ifCond .eq 13, 3) := by decide +kernel
theorem dX7_mean_10 : decode cX7_mean 10 = .ok (.iload_n 2, 1) := by decide +kernel
theorem dX7_mean_11 : decode cX7_mean 11 = .ok (.i2l, 1) := by decide +kernel
theorem dX7_mean_12 : decode cX7_mean 12 = .ok (.lconst 0, 1) := by decide +kernel
theorem dX7_mean_13 : decode cX7_mean 13 = .ok (.lconst 1, 1) := by decide +kernel
theorem dX7_mean_14 : decode cX7_mean 14 = .ok (.invokestatic 91, 3) := by decide +kernel
theorem dX7_mean_17 : decode cX7_mean 17 = .ok (.ifCond .ne 7, 3) := by decide +kernel
theorem dX7_mean_20 : decode cX7_mean 20 = .ok (.ldc2_w 323, 3) := by decide +kernel
theorem dX7_mean_23 : decode cX7_mean 23 = .ok (.lreturn, 1) := by decide +kernel
theorem dX7_mean_24 : decode cX7_mean 24 = .ok (.lconst 0, 1) := by decide +kernel
theorem dX7_mean_25 : decode cX7_mean 25 = .ok (.lstore_n 3, 1) := by decide +kernel
theorem dX7_mean_26 : decode cX7_mean 26 = .ok (.lconst 1, 1) := by decide +kernel
theorem dX7_mean_27 : decode cX7_mean 27 = .ok (.lstore 5, 2) := by decide +kernel
theorem dX7_mean_29 : decode cX7_mean 29 = .ok (.iconst 0, 1) := by decide +kernel
theorem dX7_mean_30 : decode cX7_mean 30 = .ok (.istore 7, 2) := by decide +kernel
theorem dX7_mean_32 : decode cX7_mean 32 = .ok (.iload 7, 2) := by decide +kernel
theorem dX7_mean_34 : decode cX7_mean 34 = .ok (.aload_n 0, 1) := by decide +kernel
theorem dX7_mean_35 : decode cX7_mean 35 = .ok (.getfield 88, 3) := by decide +kernel
theorem dX7_mean_38 : decode cX7_mean 38 = .ok (.if_icmp .ge 17, 3) := by decide +kernel
theorem dX7_mean_41 : decode cX7_mean 41 = .ok (.lload 5, 2) := by decide +kernel
theorem dX7_mean_43 : decode cX7_mean 43 = .ok (.ldc2_w 110, 3) := by decide +kernel
theorem dX7_mean_46 : decode cX7_mean 46 = .ok (.lmul, 1) := by decide +kernel
theorem dX7_mean_47 : decode cX7_mean 47 = .ok (.lstore 5, 2) := by decide +kernel
theorem dX7_mean_49 : decode cX7_mean 49 = .ok (.iinc 7 1, 3) := by decide +kernel
theorem dX7_mean_52 : decode cX7_mean 52 = .ok (.goto (-20), 3) := by decide +kernel
theorem dX7_mean_55 : decode cX7_mean 55 = .ok (.iconst 0, 1) := by decide +kernel
theorem dX7_mean_56 : decode cX7_mean 56 = .ok (.istore 7, 2) := by decide +kernel
theorem dX7_mean_58 : decode cX7_mean 58 = .ok (.iload 7, 2) := by decide +kernel
theorem dX7_mean_60 : decode cX7_mean 60 = .ok (.aload_n 0, 1) := by decide +kernel
theorem dX7_mean_61 : decode cX7_mean 61 = .ok (.invokevirtual 291, 3) := by decide +kernel
theorem dX7_mean_64 : decode cX7_mean 64 = .ok (.if_icmp .gt 115, 3) := by decide +kernel
theorem dX7_mean_67 : decode cX7_mean 67 = .ok (.lconst 1, 1) := by decide +kernel
theorem dX7_mean_68 : decode cX7_mean 68 = .ok (.lstore 8, 2) := by decide +kernel
theorem dX7_mean_70 : decode cX7_mean 70 = .ok (.iconst 0, 1) := by decide +kernel
theorem dX7_mean_71 : decode cX7_mean 71 = .ok (.istore 10, 2) := by decide +kernel
theorem dX7_mean_73 : decode cX7_mean 73 = .ok (.iload 10, 2) := by decide +kernel
theorem dX7_mean_75 : decode cX7_mean 75 = .ok (.aload_n 0, 1) := by decide +kernel
theorem dX7_mean_76 : decode cX7_mean 76 = .ok (.getfield 88, 3) := by decide +kernel
theorem dX7_mean_79 : decode cX7_mean 79 = .ok (.if_icmp .ge 47, 3) := by decide +kernel
theorem dX7_mean_82 : decode cX7_mean 82 = .ok (.lload 8, 2) := by decide +kernel
theorem dX7_mean_84 : decode cX7_mean 84 = .ok (.iload 7, 2) := by decide +kernel
theorem dX7_mean_86 : decode cX7_mean 86 = .ok (.iload 10, 2) := by decide +kernel
theorem dX7_mean_88 : decode cX7_mean 88 = .ok (.ishr, 1) := by decide +kernel
theorem dX7_mean_89 : decode cX7_mean 89 = .ok (.iconst 1, 1) := by decide +kernel
theorem dX7_mean_90 : decode cX7_mean 90 = .ok (.iand, 1) := by decide +kernel
theorem dX7_mean_91 : decode cX7_mean 91 = .ok (.iconst 1, 1) := by decide +kernel
theorem dX7_mean_92 : decode cX7_mean 92 = .ok (.if_icmp .ne 14, 3) := by decide +kernel
theorem dX7_mean_95 : decode cX7_mean 95 = .ok (.aload_n 0, 1) := by decide +kernel
theorem dX7_mean_96 : decode cX7_mean 96 = .ok (.getfield 44, 3) := by decide +kernel
theorem dX7_mean_99 : decode cX7_mean 99 = .ok (.iload 10, 2) := by decide +kernel
theorem dX7_mean_101 : decode cX7_mean 101 = .ok (.iaload, 1) := by decide +kernel
theorem dX7_mean_102 : decode cX7_mean 102 = .ok (.i2l, 1) := by decide +kernel
theorem dX7_mean_103 : decode cX7_mean 103 = .ok (.goto 14, 3) := by decide +kernel
theorem dX7_mean_106 : decode cX7_mean 106 = .ok (.bipush 100, 2) := by decide +kernel
theorem dX7_mean_108 : decode cX7_mean 108 = .ok (.aload_n 0, 1) := by decide +kernel
theorem dX7_mean_109 : decode cX7_mean 109 = .ok (.getfield 44, 3) := by decide +kernel
theorem dX7_mean_112 : decode cX7_mean 112 = .ok (.iload 10, 2) := by decide +kernel
theorem dX7_mean_114 : decode cX7_mean 114 = .ok (.iaload, 1) := by decide +kernel
theorem dX7_mean_115 : decode cX7_mean 115 = .ok (.isub, 1) := by decide +kernel
theorem dX7_mean_116 : decode cX7_mean 116 = .ok (.i2l, 1) := by decide +kernel
theorem dX7_mean_117 : decode cX7_mean 117 = .ok (.lmul, 1) := by decide +kernel
theorem dX7_mean_118 : decode cX7_mean 118 = .ok (.lstore 8, 2) := by decide +kernel
theorem dX7_mean_120 : decode cX7_mean 120 = .ok (.iinc 10 1, 3) := by decide +kernel
theorem dX7_mean_123 : decode cX7_mean 123 = .ok (.goto (-50), 3) := by decide +kernel
theorem dX7_mean_126 : decode cX7_mean 126 = .ok (.lload 8, 2) := by decide +kernel
theorem dX7_mean_128 : decode cX7_mean 128 = .ok (.lconst 0, 1) := by decide +kernel
theorem dX7_mean_129 : decode cX7_mean 129 = .ok (.lcmp, 1) := by decide +kernel
theorem dX7_mean_130 : decode cX7_mean 130 = .ok (.ifCond .le 43, 3) := by decide +kernel
theorem dX7_mean_133 : decode cX7_mean 133 = .ok (.aload_n 0, 1) := by decide +kernel
theorem dX7_mean_134 : decode cX7_mean 134 = .ok (.iload 7, 2) := by decide +kernel
theorem dX7_mean_136 : decode cX7_mean 136 = .ok (.invokevirtual 294, 3) := by decide +kernel
theorem dX7_mean_139 : decode cX7_mean 139 = .ok (.aload_n 0, 1) := by decide +kernel
theorem dX7_mean_140 : decode cX7_mean 140 = .ok (.invokevirtual 298, 3) := by decide +kernel
theorem dX7_mean_143 : decode cX7_mean 143 = .ok (.istore 10, 2) := by decide +kernel
theorem dX7_mean_145 : decode cX7_mean 145 = .ok (.lload_n 3, 1) := by decide +kernel
theorem dX7_mean_146 : decode cX7_mean 146 = .ok (.lload 8, 2) := by decide +kernel
theorem dX7_mean_148 : decode cX7_mean 148 = .ok (.iload_n 1, 1) := by decide +kernel
theorem dX7_mean_149 : decode cX7_mean 149 = .ok (.ifCond .ne 8, 3) := by decide +kernel
theorem dX7_mean_152 : decode cX7_mean 152 = .ok (.iload 10, 2) := by decide +kernel
theorem dX7_mean_154 : decode cX7_mean 154 = .ok (.goto 15, 3) := by decide +kernel
theorem dX7_mean_157 : decode cX7_mean 157 = .ok (.aload_n 0, 1) := by decide +kernel
theorem dX7_mean_158 : decode cX7_mean 158 = .ok (.getfield 279, 3) := by decide +kernel
theorem dX7_mean_161 : decode cX7_mean 161 = .ok (.ifCond .ne 7, 3) := by decide +kernel
theorem dX7_mean_164 : decode cX7_mean 164 = .ok (.iconst 1, 1) := by decide +kernel
theorem dX7_mean_165 : decode cX7_mean 165 = .ok (.goto 4, 3) := by decide +kernel
theorem dX7_mean_168 : decode cX7_mean 168 = .ok (.iconst 0, 1) := by decide +kernel
theorem dX7_mean_169 : decode cX7_mean 169 = .ok (.i2l, 1) := by decide +kernel
theorem dX7_mean_170 : decode cX7_mean 170 = .ok (.lmul, 1) := by decide +kernel
theorem dX7_mean_171 : decode cX7_mean 171 = .ok (.ladd, 1) := by decide +kernel
theorem dX7_mean_172 : decode cX7_mean 172 = .ok (.lstore_n 3, 1) := by decide +kernel
theorem dX7_mean_173 : decode cX7_mean 173 = .ok (.iinc 7 1, 3) := by decide +kernel
theorem dX7_mean_176 : decode cX7_mean 176 = .ok (.goto (-118), 3) := by decide +kernel
theorem dX7_mean_179 : decode cX7_mean 179 = .ok (.lload_n 3, 1) := by decide +kernel
theorem dX7_mean_180 : decode cX7_mean 180 = .ok (.lload 5, 2) := by decide +kernel
theorem dX7_mean_182 : decode cX7_mean 182 = .ok (.iload_n 2, 1) := by decide +kernel
theorem dX7_mean_183 : decode cX7_mean 183 = .ok (.invokestatic 325, 3) := by decide +kernel
theorem dX7_mean_186 : decode cX7_mean 186 = .ok (.lreturn, 1) := by decide +kernel
theorem dX7_mustFor_0 : decode cX7_mustFor 0 = .ok (.aload_n 0, 1) := by decide +kernel
theorem dX7_mustFor_1 : decode cX7_mustFor 1 = .ok (.iload_n 1, 1) := by decide +kernel
theorem dX7_mustFor_2 : decode cX7_mustFor 2 = .ok (.iload_n 2, 1) := by decide +kernel
theorem dX7_mustFor_3 : decode cX7_mustFor 3 = .ok (.iconst (-1), 1) := by decide +kernel
theorem dX7_mustFor_4 : decode cX7_mustFor 4 = .ok (.invokevirtual 267, 3) := by decide +kernel
theorem dX7_mustFor_7 : decode cX7_mustFor 7 = .ok (.istore_n 3, 1) := by decide +kernel
theorem dX7_mustFor_8 : decode cX7_mustFor 8 = .ok (.aload_n 0, 1) := by decide +kernel
theorem dX7_mustFor_9 : decode cX7_mustFor 9 = .ok (.getfield 23, 3) := by decide +kernel
theorem dX7_mustFor_12 : decode cX7_mustFor 12 = .ok (.iconst 1, 1) := by decide +kernel
theorem dX7_mustFor_13 : decode cX7_mustFor 13 = .ok (.if_icmp .ne 5, 3) := by decide +kernel
theorem dX7_mustFor_16 : decode cX7_mustFor 16 = .ok (.iload_n 3, 1) := by decide +kernel
theorem dX7_mustFor_17 : decode cX7_mustFor 17 = .ok (.ireturn, 1) := by decide +kernel
theorem dX7_mustFor_18 : decode cX7_mustFor 18 = .ok (.aload_n 0, 1) := by decide +kernel
theorem dX7_mustFor_19 : decode cX7_mustFor 19 = .ok (.iload_n 1, 1) := by decide +kernel
theorem dX7_mustFor_20 : decode cX7_mustFor 20 = .ok (.iload_n 2, 1) := by decide +kernel
theorem dX7_mustFor_21 : decode cX7_mustFor 21 = .ok (.iconst 1, 1) := by decide +kernel
theorem dX7_mustFor_22 : decode cX7_mustFor 22 = .ok (.invokevirtual 267, 3) := by decide +kernel
theorem dX7_mustFor_25 : decode cX7_mustFor 25 = .ok (.istore 4, 2) := by decide +kernel
theorem dX7_mustFor_27 : decode cX7_mustFor 27 = .ok (.iload 4, 2) := by decide +kernel
theorem dX7_mustFor_29 : decode cX7_mustFor 29 = .ok (.invokestatic 270, 3) := by decide +kernel
theorem dX7_mustFor_32 : decode cX7_mustFor 32 = .ok (.iload_n 3, 1) := by decide +kernel
theorem dX7_mustFor_33 : decode cX7_mustFor 33 = .ok (.invokestatic 270, 3) := by decide +kernel
theorem dX7_mustFor_36 : decode cX7_mustFor 36 = .ok (.if_icmp .ge 8, 3) := by decide +kernel
theorem dX7_mustFor_39 : decode cX7_mustFor 39 = .ok (.iload 4, 2) := by decide +kernel
theorem dX7_mustFor_41 : decode cX7_mustFor 41 = .ok (.goto 4, 3) := by decide +kernel
theorem dX7_mustFor_44 : decode cX7_mustFor 44 = .ok (.iload_n 3, 1) := by decide +kernel
theorem dX7_mustFor_45 : decode cX7_mustFor 45 = .ok (.ireturn, 1) := by decide +kernel
theorem dX7_name_0 : decode cX7_name 0 = .ok (.aload_n 0, 1) := by decide +kernel
theorem dX7_name_1 : decode cX7_name 1 = .ok (.bipush 114, 2) := by decide +kernel
theorem dX7_name_3 : decode cX7_name 3 = .ok (.bipush 105, 2) := by decide +kernel
theorem dX7_name_5 : decode cX7_name 5 = .ok (.bipush 100, 2) := by decide +kernel
theorem dX7_name_7 : decode cX7_name 7 = .ok (.bipush 101, 2) := by decide +kernel
theorem dX7_name_9 : decode cX7_name 9 = .ok (.bipush 114, 2) := by decide +kernel
theorem dX7_name_11 : decode cX7_name 11 = .ok (.iconst 0, 1) := by decide +kernel
theorem dX7_name_12 : decode cX7_name 12 = .ok (.iconst 0, 1) := by decide +kernel
theorem dX7_name_13 : decode cX7_name 13 = .ok (.iconst 0, 1) := by decide +kernel
theorem dX7_name_14 : decode cX7_name 14 = .ok (.invokevirtual 185, 3) := by decide +kernel
theorem dX7_name_17 : decode cX7_name 17 = .ok (.ifCond .eq 8, 3) := by decide +kernel
theorem dX7_name_20 : decode cX7_name 20 = .ok (.aload_n 0, 1) := by decide +kernel
theorem dX7_name_21 : decode cX7_name 21 = .ok (.getfield 189, 3) := by decide +kernel
theorem dX7_name_24 : decode cX7_name 24 = .ok (.ireturn, 1) := by decide +kernel
theorem dX7_name_25 : decode cX7_name 25 = .ok (.aload_n 0, 1) := by decide +kernel
theorem dX7_name_26 : decode cX7_name 26 = .ok (.bipush 102, 2) := by decide +kernel
theorem dX7_name_28 : decode cX7_name 28 = .ok (.bipush 108, 2) := by decide +kernel
theorem dX7_name_30 : decode cX7_name 30 = .ok (.bipush 111, 2) := by decide +kernel
theorem dX7_name_32 : decode cX7_name 32 = .ok (.bipush 111, 2) := by decide +kernel
theorem dX7_name_34 : decode cX7_name 34 = .ok (.bipush 114, 2) := by decide +kernel
theorem dX7_name_36 : decode cX7_name 36 = .ok (.iconst 0, 1) := by decide +kernel
theorem dX7_name_37 : decode cX7_name 37 = .ok (.iconst 0, 1) := by decide +kernel
theorem dX7_name_38 : decode cX7_name 38 = .ok (.iconst 0, 1) := by decide +kernel
theorem dX7_name_39 : decode cX7_name 39 = .ok (.invokevirtual 185, 3) := by decide +kernel
theorem dX7_name_42 : decode cX7_name 42 = .ok (.ifCond .eq 8, 3) := by decide +kernel
theorem dX7_name_45 : decode cX7_name 45 = .ok (.aload_n 0, 1) := by decide +kernel
theorem dX7_name_46 : decode cX7_name 46 = .ok (.getfield 192, 3) := by decide +kernel
theorem dX7_name_49 : decode cX7_name 49 = .ok (.ireturn, 1) := by decide +kernel
theorem dX7_name_50 : decode cX7_name 50 = .ok (.aload_n 0, 1) := by decide +kernel
theorem dX7_name_51 : decode cX7_name 51 = .ok (.bipush 115, 2) := by decide +kernel
theorem dX7_name_53 : decode cX7_name 53 = .ok (.bipush 105, 2) := by decide +kernel
theorem dX7_name_55 : decode cX7_name 55 = .ok (.bipush 122, 2) := by decide +kernel
theorem dX7_name_57 : decode cX7_name 57 = .ok (.bipush 101, 2) := by decide +kernel
theorem dX7_name_59 : decode cX7_name 59 = .ok (.iconst 0, 1) := by decide +kernel
theorem dX7_name_60 : decode cX7_name 60 = .ok (.iconst 0, 1) := by decide +kernel
theorem dX7_name_61 : decode cX7_name 61 = .ok (.iconst 0, 1) := by decide +kernel
theorem dX7_name_62 : decode cX7_name 62 = .ok (.iconst 0, 1) := by decide +kernel
theorem dX7_name_63 : decode cX7_name 63 = .ok (.invokevirtual 185, 3) := by decide +kernel
theorem dX7_name_66 : decode cX7_name 66 = .ok (.ifCond .eq 8, 3) := by decide +kernel
theorem dX7_name_69 : decode cX7_name 69 = .ok (.aload_n 0, 1) := by decide +kernel
theorem dX7_name_70 : decode cX7_name 70 = .ok (.getfield 195, 3) := by decide +kernel
theorem dX7_name_73 : decode cX7_name 73 = .ok (.ireturn, 1) := by decide +kernel
theorem dX7_name_74 : decode cX7_name 74 = .ok (.aload_n 0, 1) := by decide +kernel
theorem dX7_name_75 : decode cX7_name 75 = .ok (.bipush 114, 2) := by decide +kernel
theorem dX7_name_77 : decode cX7_name 77 = .ok (.bipush 111, 2) := by decide +kernel
theorem dX7_name_79 : decode cX7_name 79 = .ok (.bipush 119, 2) := by decide +kernel
theorem dX7_name_81 : decode cX7_name 81 = .ok (.iconst 0, 1) := by decide +kernel
theorem dX7_name_82 : decode cX7_name 82 = .ok (.iconst 0, 1) := by decide +kernel
theorem dX7_name_83 : decode cX7_name 83 = .ok (.iconst 0, 1) := by decide +kernel
theorem dX7_name_84 : decode cX7_name 84 = .ok (.iconst 0, 1) := by decide +kernel
theorem dX7_name_85 : decode cX7_name 85 = .ok (.iconst 0, 1) := by decide +kernel
theorem dX7_name_86 : decode cX7_name 86 = .ok (.invokevirtual 185, 3) := by decide +kernel
theorem dX7_name_89 : decode cX7_name 89 = .ok (.ifCond .eq 8, 3) := by decide +kernel
theorem dX7_name_92 : decode cX7_name 92 = .ok (.aload_n 0, 1) := by decide +kernel
theorem dX7_name_93 : decode cX7_name 93 = .ok (.getfield 198, 3) := by decide +kernel
theorem dX7_name_96 : decode cX7_name 96 = .ok (.ireturn, 1) := by decide +kernel
theorem dX7_name_97 : decode cX7_name 97 = .ok (.aload_n 0, 1) := by decide +kernel
theorem dX7_name_98 : decode cX7_name 98 = .ok (.bipush 110, 2) := by decide +kernel
theorem dX7_name_100 : decode cX7_name 100 = .ok (.bipush 117, 2) := by decide +kernel
theorem dX7_name_102 : decode cX7_name 102 = .ok (.bipush 109, 2) := by decide +kernel
theorem dX7_name_104 : decode cX7_name 104 = .ok (.bipush 98, 2) := by decide +kernel
theorem dX7_name_106 : decode cX7_name 106 = .ok (.bipush 101, 2) := by decide +kernel
theorem dX7_name_108 : decode cX7_name 108 = .ok (.bipush 114, 2) := by decide +kernel
theorem dX7_name_110 : decode cX7_name 110 = .ok (.iconst 0, 1) := by decide +kernel
theorem dX7_name_111 : decode cX7_name 111 = .ok (.iconst 0, 1) := by decide +kernel
theorem dX7_name_112 : decode cX7_name 112 = .ok (.invokevirtual 185, 3) := by decide +kernel
theorem dX7_name_115 : decode cX7_name 115 = .ok (.ifCond .eq 8, 3) := by decide +kernel
theorem dX7_name_118 : decode cX7_name 118 = .ok (.aload_n 0, 1) := by decide +kernel
theorem dX7_name_119 : decode cX7_name 119 = .ok (.getfield 201, 3) := by decide +kernel
theorem dX7_name_122 : decode cX7_name 122 = .ok (.ireturn, 1) := by decide +kernel
theorem dX7_name_123 : decode cX7_name 123 = .ok (.aload_n 0, 1) := by decide +kernel
theorem dX7_name_124 : decode cX7_name 124 = .ok (.bipush 105, 2) := by decide +kernel
theorem dX7_name_126 : decode cX7_name 126 = .ok (.bipush 110, 2) := by decide +kernel
theorem dX7_name_128 : decode cX7_name 128 = .ok (.bipush 115, 2) := by decide +kernel
theorem dX7_name_130 : decode cX7_name 130 = .ok (.bipush 105, 2) := by decide +kernel
theorem dX7_name_132 : decode cX7_name 132 = .ok (.bipush 100, 2) := by decide +kernel
theorem dX7_name_134 : decode cX7_name 134 = .ok (.bipush 101, 2) := by decide +kernel
theorem dX7_name_136 : decode cX7_name 136 = .ok (.iconst 0, 1) := by decide +kernel
theorem dX7_name_137 : decode cX7_name 137 = .ok (.iconst 0, 1) := by decide +kernel
theorem dX7_name_138 : decode cX7_name 138 = .ok (.invokevirtual 185, 3) := by decide +kernel
theorem dX7_name_141 : decode cX7_name 141 = .ok (.ifCond .eq 8, 3) := by decide +kernel
theorem dX7_name_144 : decode cX7_name 144 = .ok (.aload_n 0, 1) := by decide +kernel
theorem dX7_name_145 : decode cX7_name 145 = .ok (.getfield 204, 3) := by decide +kernel
theorem dX7_name_148 : decode cX7_name 148 = .ok (.ireturn, 1) := by decide +kernel
theorem dX7_name_149 : decode cX7_name 149 = .ok (.aload_n 0, 1) := by decide +kernel
theorem dX7_name_150 : decode cX7_name 150 = .ok (.invokevirtual 179, 3) := by decide +kernel
theorem dX7_name_153 : decode cX7_name 153 = .ok (.iconst 0, 1) := by decide +kernel
theorem dX7_name_154 : decode cX7_name 154 = .ok (.ireturn, 1) := by decide +kernel
theorem dX7_next_0 : decode cX7_next 0 = .ok (.aload_n 0, 1) := by decide +kernel
theorem dX7_next_1 : decode cX7_next 1 = .ok (.aload_n 0, 1) := by decide +kernel
theorem dX7_next_2 : decode cX7_next 2 = .ok (.getfield 139, 3) := by decide +kernel
theorem dX7_next_5 : decode cX7_next 5 = .ok (.invokevirtual 142, 3) := by decide +kernel
theorem dX7_next_8 : decode cX7_next 8 = .ok (.bipush 32, 2) := by decide +kernel
theorem dX7_next_10 : decode cX7_next 10 = .ok (.if_icmp .eq 16, 3) := by decide +kernel
theorem dX7_next_13 : decode cX7_next 13 = .ok (.aload_n 0, 1) := by decide +kernel
theorem dX7_next_14 : decode cX7_next 14 = .ok (.aload_n 0, 1) := by decide +kernel
theorem dX7_next_15 : decode cX7_next 15 = .ok (.getfield 139, 3) := by decide +kernel
theorem dX7_next_18 : decode cX7_next 18 = .ok (.invokevirtual 142, 3) := by decide +kernel
theorem dX7_next_21 : decode cX7_next 21 = .ok (.bipush 10, 2) := by decide +kernel
theorem dX7_next_23 : decode cX7_next 23 = .ok (.if_icmp .ne 16, 3) := by decide +kernel
theorem dX7_next_26 : decode cX7_next 26 = .ok (.aload_n 0, 1) := by decide +kernel
theorem dX7_next_27 : decode cX7_next 27 = .ok (.dup, 1) := by decide +kernel
theorem dX7_next_28 : decode cX7_next 28 = .ok (.getfield 139, 3) := by decide +kernel
theorem dX7_next_31 : decode cX7_next 31 = .ok (.iconst 1, 1) := by decide +kernel
theorem dX7_next_32 : decode cX7_next 32 = .ok (.iadd, 1) := by decide +kernel
theorem dX7_next_33 : decode cX7_next 33 = .ok (.putfield 139, 3) := by decide +kernel
theorem dX7_next_36 : decode cX7_next 36 = .ok (.goto (-36), 3) := by decide +kernel
theorem dX7_next_39 : decode cX7_next 39 = .ok (.aload_n 0, 1) := by decide +kernel
theorem dX7_next_40 : decode cX7_next 40 = .ok (.aload_n 0, 1) := by decide +kernel
theorem dX7_next_41 : decode cX7_next 41 = .ok (.getfield 139, 3) := by decide +kernel
theorem dX7_next_44 : decode cX7_next 44 = .ok (.putfield 146, 3) := by decide +kernel
theorem dX7_next_47 : decode cX7_next 47 = .ok (.aload_n 0, 1) := by decide +kernel
theorem dX7_next_48 : decode cX7_next 48 = .ok (.aload_n 0, 1) := by decide +kernel
theorem dX7_next_49 : decode cX7_next 49 = .ok (.getfield 139, 3) := by decide +kernel
theorem dX7_next_52 : decode cX7_next 52 = .ok (.invokevirtual 142, 3) := by decide +kernel
theorem dX7_next_55 : decode cX7_next 55 = .ok (.istore_n 1, 1) := by decide +kernel
theorem dX7_next_56 : decode cX7_next 56 = .ok (.aload_n 0, 1) := by decide +kernel
theorem dX7_next_57 : decode cX7_next 57 = .ok (.iconst 4, 1) := by decide +kernel
theorem dX7_next_58 : decode cX7_next 58 = .ok (.putfield 149, 3) := by decide +kernel
theorem dX7_next_61 : decode cX7_next 61 = .ok (.iload_n 1, 1) := by decide +kernel
theorem dX7_next_62 : decode cX7_next 62 = .ok (.ifCond .ge 19, 3) := by decide +kernel
theorem dX7_next_65 : decode cX7_next 65 = .ok (.aload_n 0, 1) := by decide +kernel
theorem dX7_next_66 : decode cX7_next 66 = .ok (.iconst 0, 1) := by decide +kernel
theorem dX7_next_67 : decode cX7_next 67 = .ok (.putfield 149, 3) := by decide +kernel
theorem dX7_next_70 : decode cX7_next 70 = .ok (.aload_n 0, 1) := by decide +kernel
theorem dX7_next_71 : decode cX7_next 71 = .ok (.aload_n 0, 1) := by decide +kernel
theorem dX7_next_72 : decode cX7_next 72 = .ok (.getfield 133, 3) := by decide +kernel
theorem dX7_next_75 : decode cX7_next 75 = .ok (.putfield 146, 3) := by decide +kernel
theorem dX7_next_78 : decode cX7_next 78 = .ok (.goto 243, 3) := by decide +kernel
theorem dX7_next_81 : decode cX7_next 81 = .ok (.iload_n 1, 1) := by decide +kernel
theorem dX7_next_82 : decode cX7_next 82 = .ok (.i2l, 1) := by decide +kernel
theorem dX7_next_83 : decode cX7_next 83 = .ok (.ldc2_w 152, 3) := by decide +kernel
theorem dX7_next_86 : decode cX7_next 86 = .ok (.ldc2_w 154, 3) := by decide +kernel
theorem dX7_next_89 : decode cX7_next 89 = .ok (.invokestatic 91, 3) := by decide +kernel
theorem dX7_next_92 : decode cX7_next 92 = .ok (.ifCond .eq 42, 3) := by decide +kernel
theorem dX7_next_95 : decode cX7_next 95 = .ok (.aload_n 0, 1) := by decide +kernel
theorem dX7_next_96 : decode cX7_next 96 = .ok (.iconst 1, 1) := by decide +kernel
theorem dX7_next_97 : decode cX7_next 97 = .ok (.putfield 149, 3) := by decide +kernel
theorem dX7_next_100 : decode cX7_next 100 = .ok (.aload_n 0, 1) := by decide +kernel
theorem dX7_next_101 : decode cX7_next 101 = .ok (.aload_n 0, 1) := by decide +kernel
theorem dX7_next_102 : decode cX7_next 102 = .ok (.getfield 139, 3) := by decide +kernel
theorem dX7_next_105 : decode cX7_next 105 = .ok (.invokevirtual 142, 3) := by decide +kernel
theorem dX7_next_108 : decode cX7_next 108 = .ok (.i2l, 1) := by decide +kernel
theorem dX7_next_109 : decode cX7_next 109 = .ok (.ldc2_w 152, 3) := by decide +kernel
theorem dX7_next_112 : decode cX7_next 112 = .ok (.ldc2_w 154, 3) := by decide +kernel
theorem dX7_next_115 : decode cX7_next 115 = .ok (.invokestatic 91, 3) := by decide +kernel
theorem dX7_next_118 : decode cX7_next 118 = .ok (.ifCond .eq 203, 3) := by decide +kernel
theorem dX7_next_121 : decode cX7_next 121 = .ok (.aload_n 0, 1) := by decide +kernel
theorem dX7_next_122 : decode cX7_next 122 = .ok (.dup, 1) := by decide +kernel
theorem dX7_next_123 : decode cX7_next 123 = .ok (.getfield 139, 3) := by decide +kernel
theorem dX7_next_126 : decode cX7_next 126 = .ok (.iconst 1, 1) := by decide +kernel
theorem dX7_next_127 : decode cX7_next 127 = .ok (.iadd, 1) := by decide +kernel
theorem dX7_next_128 : decode cX7_next 128 = .ok (.putfield 139, 3) := by decide +kernel
theorem dX7_next_131 : decode cX7_next 131 = .ok (.goto (-31), 3) := by decide +kernel
theorem dX7_next_134 : decode cX7_next 134 = .ok (.iload_n 1, 1) := by decide +kernel
theorem dX7_next_135 : decode cX7_next 135 = .ok (.i2l, 1) := by decide +kernel
theorem dX7_next_136 : decode cX7_next 136 = .ok (.ldc2_w 156, 3) := by decide +kernel
theorem dX7_next_139 : decode cX7_next 139 = .ok (.ldc2_w 158, 3) := by decide +kernel
theorem dX7_next_142 : decode cX7_next 142 = .ok (.invokestatic 91, 3) := by decide +kernel
theorem dX7_next_145 : decode cX7_next 145 = .ok (.ifCond .eq 107, 3) := by decide +kernel
theorem dX7_next_148 : decode cX7_next 148 = .ok (.aload_n 0, 1) := by decide +kernel
theorem dX7_next_149 : decode cX7_next 149 = .ok (.iconst 2, 1) := by decide +kernel
theorem dX7_next_150 : decode cX7_next 150 = .ok (.putfield 149, 3) := by decide +kernel
theorem dX7_next_153 : decode cX7_next 153 = .ok (.aload_n 0, 1) := by decide +kernel
theorem dX7_next_154 : decode cX7_next 154 = .ok (.lconst 0, 1) := by decide +kernel
theorem dX7_next_155 : decode cX7_next 155 = .ok (.putfield 160, 3) := by decide +kernel
theorem dX7_next_158 : decode cX7_next 158 = .ok (.iconst 0, 1) := by decide +kernel
theorem dX7_next_159 : decode cX7_next 159 = .ok (.istore_n 2, 1) := by decide +kernel
theorem dX7_next_160 : decode cX7_next 160 = .ok (.aload_n 0, 1) := by decide +kernel
theorem dX7_next_161 : decode cX7_next 161 = .ok (.aload_n 0, 1) := by decide +kernel
theorem dX7_next_162 : decode cX7_next 162 = .ok (.getfield 139, 3) := by decide +kernel
theorem dX7_next_165 : decode cX7_next 165 = .ok (.invokevirtual 142, 3) := by decide +kernel
theorem dX7_next_168 : decode cX7_next 168 = .ok (.i2l, 1) := by decide +kernel
theorem dX7_next_169 : decode cX7_next 169 = .ok (.ldc2_w 156, 3) := by decide +kernel
theorem dX7_next_172 : decode cX7_next 172 = .ok (.ldc2_w 158, 3) := by decide +kernel
theorem dX7_next_175 : decode cX7_next 175 = .ok (.invokestatic 91, 3) := by decide +kernel
theorem dX7_next_178 : decode cX7_next 178 = .ok (.ifCond .eq 57, 3) := by decide +kernel
theorem dX7_next_181 : decode cX7_next 181 = .ok (.aload_n 0, 1) := by decide +kernel
theorem dX7_next_182 : decode cX7_next 182 = .ok (.iload_n 2, 1) := by decide +kernel
theorem dX7_next_183 : decode cX7_next 183 = .ok (.iconst 4, 1) := by decide +kernel
theorem dX7_next_184 : decode cX7_next 184 = .ok (.if_icmp .ge 28, 3) := by decide +kernel
theorem dX7_next_187 : decode cX7_next 187 = .ok (.ldc2_w 164, 3) := by decide +kernel
theorem dX7_next_190 : decode cX7_next 190 = .ok (.aload_n 0, 1) := by decide +kernel
theorem dX7_next_191 : decode cX7_next 191 = .ok (.getfield 160, 3) := by decide +kernel
theorem dX7_next_194 : decode cX7_next 194 = .ok (.lmul, 1) := by decide +kernel
theorem dX7_next_195 : decode cX7_next 195 = .ok (.aload_n 0, 1) := by decide +kernel
theorem dX7_next_196 : decode cX7_next 196 = .ok (.aload_n 0, 1) := by decide +kernel
theorem dX7_next_197 : decode cX7_next 197 = .ok (.getfield 139, 3) := by decide +kernel
theorem dX7_next_200 : decode cX7_next 200 = .ok (.invokevirtual 142, 3) := by decide +kernel
theorem dX7_next_203 : decode cX7_next 203 = .ok (.i2l, 1) := by decide +kernel
theorem dX7_next_204 : decode cX7_next 204 = .ok (.ladd, 1) := by decide +kernel
theorem dX7_next_205 : decode cX7_next 205 = .ok (.ldc2_w 156, 3) := by decide +kernel
theorem dX7_next_208 : decode cX7_next 208 = .ok (.lsub, 1) := by decide +kernel
theorem dX7_next_209 : decode cX7_next 209 = .ok (.goto 7, 3) := by decide +kernel
theorem dX7_next_212 : decode cX7_next 212 = .ok (.aload_n 0, 1) := by decide +kernel
theorem dX7_next_213 : decode cX7_next 213 = .ok (.getfield 160, 3) := by decide +kernel
theorem dX7_next_216 : decode cX7_next 216 = .ok (.putfield 160, 3) := by decide +kernel
theorem dX7_next_219 : decode cX7_next 219 = .ok (.iinc 2 1, 3) := by decide +kernel
theorem dX7_next_222 : decode cX7_next 222 = .ok (.aload_n 0, 1) := by decide +kernel
theorem dX7_next_223 : decode cX7_next 223 = .ok (.dup, 1) := by decide +kernel
theorem dX7_next_224 : decode cX7_next 224 = .ok (.getfield 139, 3) := by decide +kernel
theorem dX7_next_227 : decode cX7_next 227 = .ok (.iconst 1, 1) := by decide +kernel
theorem dX7_next_228 : decode cX7_next 228 = .ok (.iadd, 1) := by decide +kernel
theorem dX7_next_229 : decode cX7_next 229 = .ok (.putfield 139, 3) := by decide +kernel
theorem dX7_next_232 : decode cX7_next 232 = .ok (.goto (-72), 3) := by decide +kernel
theorem dX7_next_235 : decode cX7_next 235 = .ok (.aload_n 0, 1) := by decide +kernel
theorem dX7_next_236 : decode cX7_next 236 = .ok (.iload_n 2, 1) := by decide +kernel
theorem dX7_next_237 : decode cX7_next 237 = .ok (.iconst 4, 1) := by decide +kernel
theorem dX7_next_238 : decode cX7_next 238 = .ok (.if_icmp .le 7, 3) := by decide +kernel
theorem dX7_next_241 : decode cX7_next 241 = .ok (.iconst 4, 1) := by decide +kernel
theorem dX7_next_242 : decode cX7_next 242 = .ok (.goto 4, 3) := by decide +kernel
theorem dX7_next_245 : decode cX7_next 245 = .ok (.iconst 2, 1) := by decide +kernel
theorem dX7_next_246 : decode cX7_next 246 = .ok (.putfield 149, 3) := by decide +kernel
theorem dX7_next_249 : decode cX7_next 249 = .ok (.goto 72, 3) := by decide +kernel
theorem dX7_next_252 : decode cX7_next 252 = .ok (.iload_n 1, 1) := by decide +kernel
theorem dX7_next_253 : decode cX7_next 253 = .ok (.bipush 40, 2) := by decide +kernel
theorem dX7_next_255 : decode cX7_next 255 = .ok (.if_icmp .eq 45, 3) := by decide +kernel
theorem dX7_next_258 : decode cX7_next 258 = .ok (.iload_n 1, 1) := by decide +kernel
theorem dX7_next_259 : decode cX7_next 259 = .ok (.bipush 41, 2) := by decide +kernel
theorem dX7_next_261 : decode cX7_next 261 = .ok (.if_icmp .eq 39, 3) := by decide +kernel
theorem dX7_next_264 : decode cX7_next 264 = .ok (.iload_n 1, 1) := by decide +kernel
theorem dX7_next_265 : decode cX7_next 265 = .ok (.bipush 59, 2) := by decide +kernel
theorem dX7_next_267 : decode cX7_next 267 = .ok (.if_icmp .eq 33, 3) := by decide +kernel
theorem dX7_next_270 : decode cX7_next 270 = .ok (.iload_n 1, 1) := by decide +kernel
theorem dX7_next_271 : decode cX7_next 271 = .ok (.bipush 43, 2) := by decide +kernel
theorem dX7_next_273 : decode cX7_next 273 = .ok (.if_icmp .eq 27, 3) := by decide +kernel
theorem dX7_next_276 : decode cX7_next 276 = .ok (.iload_n 1, 1) := by decide +kernel
theorem dX7_next_277 : decode cX7_next 277 = .ok (.bipush 45, 2) := by decide +kernel
theorem dX7_next_279 : decode cX7_next 279 = .ok (.if_icmp .eq 21, 3) := by decide +kernel
theorem dX7_next_282 : decode cX7_next 282 = .ok (.iload_n 1, 1) := by decide +kernel
theorem dX7_next_283 : decode cX7_next 283 = .ok (.bipush 42, 2) := by decide +kernel
theorem dX7_next_285 : decode cX7_next 285 = .ok (.if_icmp .eq 15, 3) := by decide +kernel
theorem dX7_next_288 : decode cX7_next 288 = .ok (.iload_n 1, 1) := by decide +kernel
theorem dX7_next_289 : decode cX7_next 289 = .ok (.bipush 60, 2) := by decide +kernel
theorem dX7_next_291 : decode cX7_next 291 = .ok (.if_icmp .eq 9, 3) := by decide +kernel
theorem dX7_next_294 : decode cX7_next 294 = .ok (.iload_n 1, 1) := by decide +kernel
theorem dX7_next_295 : decode cX7_next 295 = .ok (.bipush 61, 2) := by decide +kernel
theorem dX7_next_297 : decode cX7_next 297 = .ok (.if_icmp .ne 24, 3) := by decide +kernel
theorem dX7_next_300 : decode cX7_next 300 = .ok (.aload_n 0, 1) := by decide +kernel
theorem dX7_next_301 : decode cX7_next 301 = .ok (.iconst 3, 1) := by decide +kernel
theorem dX7_next_302 : decode cX7_next 302 = .ok (.putfield 149, 3) := by decide +kernel
theorem dX7_next_305 : decode cX7_next 305 = .ok (.aload_n 0, 1) := by decide +kernel
theorem dX7_next_306 : decode cX7_next 306 = .ok (.iload_n 1, 1) := by decide +kernel
theorem dX7_next_307 : decode cX7_next 307 = .ok (.i2l, 1) := by decide +kernel
theorem dX7_next_308 : decode cX7_next 308 = .ok (.putfield 160, 3) := by decide +kernel
theorem dX7_next_311 : decode cX7_next 311 = .ok (.aload_n 0, 1) := by decide +kernel
theorem dX7_next_312 : decode cX7_next 312 = .ok (.dup, 1) := by decide +kernel
theorem dX7_next_313 : decode cX7_next 313 = .ok (.getfield 139, 3) := by decide +kernel
theorem dX7_next_316 : decode cX7_next 316 = .ok (.iconst 1, 1) := by decide +kernel
theorem dX7_next_317 : decode cX7_next 317 = .ok (.iadd, 1) := by decide +kernel
theorem dX7_next_318 : decode cX7_next 318 = .ok (.putfield 139, 3) := by decide +kernel
theorem dX7_next_321 : decode cX7_next 321 = .ok (.return_, 1) := by decide +kernel
theorem dX7_not_0 : decode cX7_not 0 = .ok (.aload_n 0, 1) := by decide +kernel
theorem dX7_not_1 : decode cX7_not 1 = .ok (.bipush 110, 2) := by decide +kernel
theorem dX7_not_3 : decode cX7_not 3 = .ok (.bipush 111, 2) := by decide +kernel
theorem dX7_not_5 : decode cX7_not 5 = .ok (.bipush 116, 2) := by decide +kernel
theorem dX7_not_7 : decode cX7_not 7 = .ok (.iconst 0, 1) := by decide +kernel
theorem dX7_not_8 : decode cX7_not 8 = .ok (.iconst 0, 1) := by decide +kernel
theorem dX7_not_9 : decode cX7_not 9 = .ok (.iconst 0, 1) := by decide +kernel
theorem dX7_not_10 : decode cX7_not 10 = .ok (.iconst 0, 1) := by decide +kernel
theorem dX7_not_11 : decode cX7_not 11 = .ok (.iconst 0, 1) := by decide +kernel
theorem dX7_not_12 : decode cX7_not 12 = .ok (.invokevirtual 185, 3) := by decide +kernel
theorem dX7_not_15 : decode cX7_not 15 = .ok (.ifCond .eq 37, 3) := by decide +kernel
theorem dX7_not_18 : decode cX7_not 18 = .ok (.aload_n 0, 1) := by decide +kernel
theorem dX7_not_19 : decode cX7_not 19 = .ok (.invokevirtual 210, 3) := by decide +kernel
theorem dX7_not_22 : decode cX7_not 22 = .ok (.ifCond .ne 5, 3) := by decide +kernel
theorem dX7_not_25 : decode cX7_not 25 = .ok (.iconst 0, 1) := by decide +kernel
theorem dX7_not_26 : decode cX7_not 26 = .ok (.ireturn, 1) := by decide +kernel
theorem dX7_not_27 : decode cX7_not 27 = .ok (.aload_n 0, 1) := by decide +kernel
theorem dX7_not_28 : decode cX7_not 28 = .ok (.invokevirtual 229, 3) := by decide +kernel
theorem dX7_not_31 : decode cX7_not 31 = .ok (.istore_n 1, 1) := by decide +kernel
theorem dX7_not_32 : decode cX7_not 32 = .ok (.aload_n 0, 1) := by decide +kernel
theorem dX7_not_33 : decode cX7_not 33 = .ok (.dup, 1) := by decide +kernel
theorem dX7_not_34 : decode cX7_not 34 = .ok (.getfield 176, 3) := by decide +kernel
theorem dX7_not_37 : decode cX7_not 37 = .ok (.iconst 1, 1) := by decide +kernel
theorem dX7_not_38 : decode cX7_not 38 = .ok (.isub, 1) := by decide +kernel
theorem dX7_not_39 : decode cX7_not 39 = .ok (.putfield 176, 3) := by decide +kernel
theorem dX7_not_42 : decode cX7_not 42 = .ok (.iload_n 1, 1) := by decide +kernel
theorem dX7_not_43 : decode cX7_not 43 = .ok (.ifCond .ne 7, 3) := by decide +kernel
theorem dX7_not_46 : decode cX7_not 46 = .ok (.iconst 1, 1) := by decide +kernel
theorem dX7_not_47 : decode cX7_not 47 = .ok (.goto 4, 3) := by decide +kernel
theorem dX7_not_50 : decode cX7_not 50 = .ok (.iconst 0, 1) := by decide +kernel
theorem dX7_not_51 : decode cX7_not 51 = .ok (.ireturn, 1) := by decide +kernel
theorem dX7_not_52 : decode cX7_not 52 = .ok (.aload_n 0, 1) := by decide +kernel
theorem dX7_not_53 : decode cX7_not 53 = .ok (.invokevirtual 232, 3) := by decide +kernel
theorem dX7_not_56 : decode cX7_not 56 = .ok (.istore_n 1, 1) := by decide +kernel
theorem dX7_not_57 : decode cX7_not 57 = .ok (.aload_n 0, 1) := by decide +kernel
theorem dX7_not_58 : decode cX7_not 58 = .ok (.bipush 60, 2) := by decide +kernel
theorem dX7_not_60 : decode cX7_not 60 = .ok (.invokevirtual 207, 3) := by decide +kernel
theorem dX7_not_63 : decode cX7_not 63 = .ok (.ifCond .ne 14, 3) := by decide +kernel
theorem dX7_not_66 : decode cX7_not 66 = .ok (.aload_n 0, 1) := by decide +kernel
theorem dX7_not_67 : decode cX7_not 67 = .ok (.bipush 61, 2) := by decide +kernel
theorem dX7_not_69 : decode cX7_not 69 = .ok (.invokevirtual 207, 3) := by decide +kernel
theorem dX7_not_72 : decode cX7_not 72 = .ok (.ifCond .ne 5, 3) := by decide +kernel
theorem dX7_not_75 : decode cX7_not 75 = .ok (.iload_n 1, 1) := by decide +kernel
theorem dX7_not_76 : decode cX7_not 76 = .ok (.ireturn, 1) := by decide +kernel
theorem dX7_not_77 : decode cX7_not 77 = .ok (.aload_n 0, 1) := by decide +kernel
theorem dX7_not_78 : decode cX7_not 78 = .ok (.getfield 160, 3) := by decide +kernel
theorem dX7_not_81 : decode cX7_not 81 = .ok (.ldc2_w 235, 3) := by decide +kernel
theorem dX7_not_84 : decode cX7_not 84 = .ok (.lcmp, 1) := by decide +kernel
theorem dX7_not_85 : decode cX7_not 85 = .ok (.ifCond .ne 7, 3) := by decide +kernel
theorem dX7_not_88 : decode cX7_not 88 = .ok (.iconst 1, 1) := by decide +kernel
theorem dX7_not_89 : decode cX7_not 89 = .ok (.goto 4, 3) := by decide +kernel
theorem dX7_not_92 : decode cX7_not 92 = .ok (.iconst 0, 1) := by decide +kernel
theorem dX7_not_93 : decode cX7_not 93 = .ok (.istore_n 2, 1) := by decide +kernel
theorem dX7_not_94 : decode cX7_not 94 = .ok (.aload_n 0, 1) := by decide +kernel
theorem dX7_not_95 : decode cX7_not 95 = .ok (.invokevirtual 182, 3) := by decide +kernel
theorem dX7_not_98 : decode cX7_not 98 = .ok (.aload_n 0, 1) := by decide +kernel
theorem dX7_not_99 : decode cX7_not 99 = .ok (.invokevirtual 232, 3) := by decide +kernel
theorem dX7_not_102 : decode cX7_not 102 = .ok (.istore_n 3, 1) := by decide +kernel
theorem dX7_not_103 : decode cX7_not 103 = .ok (.iload_n 2, 1) := by decide +kernel
theorem dX7_not_104 : decode cX7_not 104 = .ok (.ifCond .eq 11, 3) := by decide +kernel
theorem dX7_not_107 : decode cX7_not 107 = .ok (.iload_n 1, 1) := by decide +kernel
theorem dX7_not_108 : decode cX7_not 108 = .ok (.iload_n 3, 1) := by decide +kernel
theorem dX7_not_109 : decode cX7_not 109 = .ok (.if_icmp .ge 15, 3) := by decide +kernel
theorem dX7_not_112 : decode cX7_not 112 = .ok (.goto 8, 3) := by decide +kernel
theorem dX7_not_115 : decode cX7_not 115 = .ok (.iload_n 1, 1) := by decide +kernel
theorem dX7_not_116 : decode cX7_not 116 = .ok (.iload_n 3, 1) := by decide +kernel
theorem dX7_not_117 : decode cX7_not 117 = .ok (.if_icmp .ne 7, 3) := by decide +kernel
theorem dX7_not_120 : decode cX7_not 120 = .ok (.iconst 1, 1) := by decide +kernel
theorem dX7_not_121 : decode cX7_not 121 = .ok (.goto 4, 3) := by decide +kernel
theorem dX7_not_124 : decode cX7_not 124 = .ok (.iconst 0, 1) := by decide +kernel
theorem dX7_not_125 : decode cX7_not 125 = .ok (.ireturn, 1) := by decide +kernel
theorem dX7_one_0 : decode cX7_one 0 = .ok (.aload_n 0, 1) := by decide +kernel
theorem dX7_one_1 : decode cX7_one 1 = .ok (.iload_n 1, 1) := by decide +kernel
theorem dX7_one_2 : decode cX7_one 2 = .ok (.invokevirtual 105, 3) := by decide +kernel
theorem dX7_one_5 : decode cX7_one 5 = .ok (.ifCond .eq 13, 3) := by decide +kernel
theorem dX7_one_8 : decode cX7_one 8 = .ok (.iload_n 2, 1) := by decide +kernel
theorem dX7_one_9 : decode cX7_one 9 = .ok (.i2l, 1) := by decide +kernel
theorem dX7_one_10 : decode cX7_one 10 = .ok (.lconst 0, 1) := by decide +kernel
theorem dX7_one_11 : decode cX7_one 11 = .ok (.lconst 1, 1) := by decide +kernel
theorem dX7_one_12 : decode cX7_one 12 = .ok (.invokestatic 91, 3) := by decide +kernel
theorem dX7_one_15 : decode cX7_one 15 = .ok (.ifCond .ne 6, 3) := by decide +kernel
theorem dX7_one_18 : decode cX7_one 18 = .ok (.bipush (-2), 2) := by decide +kernel
theorem dX7_one_20 : decode cX7_one 20 = .ok (.ireturn, 1) := by decide +kernel
theorem dX7_one_21 : decode cX7_one 21 = .ok (.aload_n 0, 1) := by decide +kernel
theorem dX7_one_22 : decode cX7_one 22 = .ok (.aload_n 0, 1) := by decide +kernel
theorem dX7_one_23 : decode cX7_one 23 = .ok (.invokevirtual 291, 3) := by decide +kernel
theorem dX7_one_26 : decode cX7_one 26 = .ok (.invokevirtual 294, 3) := by decide +kernel
theorem dX7_one_29 : decode cX7_one 29 = .ok (.aload_n 0, 1) := by decide +kernel
theorem dX7_one_30 : decode cX7_one 30 = .ok (.invokevirtual 313, 3) := by decide +kernel
theorem dX7_one_33 : decode cX7_one 33 = .ok (.iconst (-1), 1) := by decide +kernel
theorem dX7_one_34 : decode cX7_one 34 = .ok (.istore_n 3, 1) := by decide +kernel
theorem dX7_one_35 : decode cX7_one 35 = .ok (.iconst 0, 1) := by decide +kernel
theorem dX7_one_36 : decode cX7_one 36 = .ok (.istore 4, 2) := by decide +kernel
theorem dX7_one_38 : decode cX7_one 38 = .ok (.iconst 0, 1) := by decide +kernel
theorem dX7_one_39 : decode cX7_one 39 = .ok (.istore 5, 2) := by decide +kernel
theorem dX7_one_41 : decode cX7_one 41 = .ok (.iload 5, 2) := by decide +kernel
theorem dX7_one_43 : decode cX7_one 43 = .ok (.bipush 6, 2) := by decide +kernel
theorem dX7_one_45 : decode cX7_one 45 = .ok (.if_icmp .ge 53, 3) := by decide +kernel
theorem dX7_one_48 : decode cX7_one 48 = .ok (.aload_n 0, 1) := by decide +kernel
theorem dX7_one_49 : decode cX7_one 49 = .ok (.getfield 41, 3) := by decide +kernel
theorem dX7_one_52 : decode cX7_one 52 = .ok (.iload_n 1, 1) := by decide +kernel
theorem dX7_one_53 : decode cX7_one 53 = .ok (.iload 5, 2) := by decide +kernel
theorem dX7_one_55 : decode cX7_one 55 = .ok (.iastore, 1) := by decide +kernel
theorem dX7_one_56 : decode cX7_one 56 = .ok (.aload_n 0, 1) := by decide +kernel
theorem dX7_one_57 : decode cX7_one 57 = .ok (.aload_n 0, 1) := by decide +kernel
theorem dX7_one_58 : decode cX7_one 58 = .ok (.getfield 88, 3) := by decide +kernel
theorem dX7_one_61 : decode cX7_one 61 = .ok (.invokevirtual 101, 3) := by decide +kernel
theorem dX7_one_64 : decode cX7_one 64 = .ok (.ifCond .ne 28, 3) := by decide +kernel
theorem dX7_one_67 : decode cX7_one 67 = .ok (.aload_n 0, 1) := by decide +kernel
theorem dX7_one_68 : decode cX7_one 68 = .ok (.invokevirtual 301, 3) := by decide +kernel
theorem dX7_one_71 : decode cX7_one 71 = .ok (.istore 6, 2) := by decide +kernel
theorem dX7_one_73 : decode cX7_one 73 = .ok (.iload_n 3, 1) := by decide +kernel
theorem dX7_one_74 : decode cX7_one 74 = .ok (.iconst (-1), 1) := by decide +kernel
theorem dX7_one_75 : decode cX7_one 75 = .ok (.if_icmp .eq 10, 3) := by decide +kernel
theorem dX7_one_78 : decode cX7_one 78 = .ok (.iload 6, 2) := by decide +kernel
theorem dX7_one_80 : decode cX7_one 80 = .ok (.iload 4, 2) := by decide +kernel
theorem dX7_one_82 : decode cX7_one 82 = .ok (.if_icmp .ge 10, 3) := by decide +kernel
theorem dX7_one_85 : decode cX7_one 85 = .ok (.iload 5, 2) := by decide +kernel
theorem dX7_one_87 : decode cX7_one 87 = .ok (.istore_n 3, 1) := by decide +kernel
theorem dX7_one_88 : decode cX7_one 88 = .ok (.iload 6, 2) := by decide +kernel
theorem dX7_one_90 : decode cX7_one 90 = .ok (.istore 4, 2) := by decide +kernel
theorem dX7_one_92 : decode cX7_one 92 = .ok (.iinc 5 1, 3) := by decide +kernel
theorem dX7_one_95 : decode cX7_one 95 = .ok (.goto (-54), 3) := by decide +kernel
theorem dX7_one_98 : decode cX7_one 98 = .ok (.aload_n 0, 1) := by decide +kernel
theorem dX7_one_99 : decode cX7_one 99 = .ok (.invokevirtual 316, 3) := by decide +kernel
theorem dX7_one_102 : decode cX7_one 102 = .ok (.iload_n 2, 1) := by decide +kernel
theorem dX7_one_103 : decode cX7_one 103 = .ok (.ifCond .ne 7, 3) := by decide +kernel
theorem dX7_one_106 : decode cX7_one 106 = .ok (.iload_n 3, 1) := by decide +kernel
theorem dX7_one_107 : decode cX7_one 107 = .ok (.goto 5, 3) := by decide +kernel
theorem dX7_one_110 : decode cX7_one 110 = .ok (.iload 4, 2) := by decide +kernel
theorem dX7_one_112 : decode cX7_one 112 = .ok (.ireturn, 1) := by decide +kernel
theorem dX7_opens_0 : decode cX7_opens 0 = .ok (.aload_n 0, 1) := by decide +kernel
theorem dX7_opens_1 : decode cX7_opens 1 = .ok (.getfield 176, 3) := by decide +kernel
theorem dX7_opens_4 : decode cX7_opens 4 = .ok (.iconst 5, 1) := by decide +kernel
theorem dX7_opens_5 : decode cX7_opens 5 = .ok (.if_icmp .ne 9, 3) := by decide +kernel
theorem dX7_opens_8 : decode cX7_opens 8 = .ok (.aload_n 0, 1) := by decide +kernel
theorem dX7_opens_9 : decode cX7_opens 9 = .ok (.invokevirtual 179, 3) := by decide +kernel
theorem dX7_opens_12 : decode cX7_opens 12 = .ok (.iconst 0, 1) := by decide +kernel
theorem dX7_opens_13 : decode cX7_opens 13 = .ok (.ireturn, 1) := by decide +kernel
theorem dX7_opens_14 : decode cX7_opens 14 = .ok (.aload_n 0, 1) := by decide +kernel
theorem dX7_opens_15 : decode cX7_opens 15 = .ok (.dup, 1) := by decide +kernel
theorem dX7_opens_16 : decode cX7_opens 16 = .ok (.getfield 176, 3) := by decide +kernel
theorem dX7_opens_19 : decode cX7_opens 19 = .ok (.iconst 1, 1) := by decide +kernel
theorem dX7_opens_20 : decode cX7_opens 20 = .ok (.iadd, 1) := by decide +kernel
theorem dX7_opens_21 : decode cX7_opens 21 = .ok (.putfield 176, 3) := by decide +kernel
theorem dX7_opens_24 : decode cX7_opens 24 = .ok (.aload_n 0, 1) := by decide +kernel
theorem dX7_opens_25 : decode cX7_opens 25 = .ok (.invokevirtual 182, 3) := by decide +kernel
theorem dX7_opens_28 : decode cX7_opens 28 = .ok (.iconst 1, 1) := by decide +kernel
theorem dX7_opens_29 : decode cX7_opens 29 = .ok (.ireturn, 1) := by decide +kernel
theorem dX7_over_0 : decode cX7_over 0 = .ok (.iload_n 0, 1) := by decide +kernel
theorem dX7_over_1 : decode cX7_over 1 = .ok (.ifCond .ne 7, 3) := by decide +kernel
theorem dX7_over_4 : decode cX7_over 4 = .ok (.iconst (-1), 1) := by decide +kernel
theorem dX7_over_5 : decode cX7_over 5 = .ok (.goto 27, 3) := by decide +kernel
theorem dX7_over_8 : decode cX7_over 8 = .ok (.iload_n 0, 1) := by decide +kernel
theorem dX7_over_9 : decode cX7_over 9 = .ok (.iconst 3, 1) := by decide +kernel
theorem dX7_over_10 : decode cX7_over 10 = .ok (.if_icmp .eq 8, 3) := by decide +kernel
theorem dX7_over_13 : decode cX7_over 13 = .ok (.iload_n 0, 1) := by decide +kernel
theorem dX7_over_14 : decode cX7_over 14 = .ok (.iconst 5, 1) := by decide +kernel
theorem dX7_over_15 : decode cX7_over 15 = .ok (.if_icmp .ne 7, 3) := by decide +kernel
theorem dX7_over_18 : decode cX7_over 18 = .ok (.iconst 1, 1) := by decide +kernel
theorem dX7_over_19 : decode cX7_over 19 = .ok (.goto 13, 3) := by decide +kernel
theorem dX7_over_22 : decode cX7_over 22 = .ok (.iload_n 0, 1) := by decide +kernel
theorem dX7_over_23 : decode cX7_over 23 = .ok (.iconst 4, 1) := by decide +kernel
theorem dX7_over_24 : decode cX7_over 24 = .ok (.if_icmp .ne 7, 3) := by decide +kernel
theorem dX7_over_27 : decode cX7_over 27 = .ok (.iconst 2, 1) := by decide +kernel
theorem dX7_over_28 : decode cX7_over 28 = .ok (.goto 4, 3) := by decide +kernel
theorem dX7_over_31 : decode cX7_over 31 = .ok (.iconst 0, 1) := by decide +kernel
theorem dX7_over_32 : decode cX7_over 32 = .ok (.ireturn, 1) := by decide +kernel
theorem dX7_part_0 : decode cX7_part 0 = .ok (.iload_n 1, 1) := by decide +kernel
theorem dX7_part_1 : decode cX7_part 1 = .ok (.ifCond .ne 7, 3) := by decide +kernel
theorem dX7_part_4 : decode cX7_part 4 = .ok (.aload_n 0, 1) := by decide +kernel
theorem dX7_part_5 : decode cX7_part 5 = .ok (.invokevirtual 179, 3) := by decide +kernel
theorem dX7_part_8 : decode cX7_part 8 = .ok (.aload_n 0, 1) := by decide +kernel
theorem dX7_part_9 : decode cX7_part 9 = .ok (.getfield 166, 3) := by decide +kernel
theorem dX7_part_12 : decode cX7_part 12 = .ok (.ifCond .ne 7, 3) := by decide +kernel
theorem dX7_part_15 : decode cX7_part 15 = .ok (.aload_n 0, 1) := by decide +kernel
theorem dX7_part_16 : decode cX7_part 16 = .ok (.invokevirtual 182, 3) := by decide +kernel
theorem dX7_part_19 : decode cX7_part 19 = .ok (.aload_n 0, 1) := by decide +kernel
theorem dX7_part_20 : decode cX7_part 20 = .ok (.getfield 166, 3) := by decide +kernel
theorem dX7_part_23 : decode cX7_part 23 = .ok (.ifCond .eq 7, 3) := by decide +kernel
theorem dX7_part_26 : decode cX7_part 26 = .ok (.iconst 0, 1) := by decide +kernel
theorem dX7_part_27 : decode cX7_part 27 = .ok (.goto 7, 3) := by decide +kernel
theorem dX7_part_30 : decode cX7_part 30 = .ok (.aload_n 0, 1) := by decide +kernel
theorem dX7_part_31 : decode cX7_part 31 = .ok (.invokevirtual 218, 3) := by decide +kernel
theorem dX7_part_34 : decode cX7_part 34 = .ok (.istore_n 2, 1) := by decide +kernel
theorem dX7_part_35 : decode cX7_part 35 = .ok (.aload_n 0, 1) := by decide +kernel
theorem dX7_part_36 : decode cX7_part 36 = .ok (.bipush 59, 2) := by decide +kernel
theorem dX7_part_38 : decode cX7_part 38 = .ok (.invokevirtual 207, 3) := by decide +kernel
theorem dX7_part_41 : decode cX7_part 41 = .ok (.ifCond .ne 7, 3) := by decide +kernel
theorem dX7_part_44 : decode cX7_part 44 = .ok (.aload_n 0, 1) := by decide +kernel
theorem dX7_part_45 : decode cX7_part 45 = .ok (.invokevirtual 179, 3) := by decide +kernel
theorem dX7_part_48 : decode cX7_part 48 = .ok (.aload_n 0, 1) := by decide +kernel
theorem dX7_part_49 : decode cX7_part 49 = .ok (.getfield 166, 3) := by decide +kernel
theorem dX7_part_52 : decode cX7_part 52 = .ok (.ifCond .ne 7, 3) := by decide +kernel
theorem dX7_part_55 : decode cX7_part 55 = .ok (.aload_n 0, 1) := by decide +kernel
theorem dX7_part_56 : decode cX7_part 56 = .ok (.invokevirtual 182, 3) := by decide +kernel
theorem dX7_part_59 : decode cX7_part 59 = .ok (.iload_n 2, 1) := by decide +kernel
theorem dX7_part_60 : decode cX7_part 60 = .ok (.ireturn, 1) := by decide +kernel
theorem dX7_puts_0 : decode cX7_puts 0 = .ok (.iload_n 2, 1) := by decide +kernel
theorem dX7_puts_1 : decode cX7_puts 1 = .ok (.iconst 3, 1) := by decide +kernel
theorem dX7_puts_2 : decode cX7_puts 2 = .ok (.if_icmp .ne 13, 3) := by decide +kernel
theorem dX7_puts_5 : decode cX7_puts 5 = .ok (.aload_n 0, 1) := by decide +kernel
theorem dX7_puts_6 : decode cX7_puts 6 = .ok (.getfield 38, 3) := by decide +kernel
theorem dX7_puts_9 : decode cX7_puts 9 = .ok (.iload_n 1, 1) := by decide +kernel
theorem dX7_puts_10 : decode cX7_puts 10 = .ok (.iload_n 3, 1) := by decide +kernel
theorem dX7_puts_11 : decode cX7_puts 11 = .ok (.iastore, 1) := by decide +kernel
theorem dX7_puts_12 : decode cX7_puts 12 = .ok (.goto 10, 3) := by decide +kernel
theorem dX7_puts_15 : decode cX7_puts 15 = .ok (.aload_n 0, 1) := by decide +kernel
theorem dX7_puts_16 : decode cX7_puts 16 = .ok (.getfield 41, 3) := by decide +kernel
theorem dX7_puts_19 : decode cX7_puts 19 = .ok (.iload_n 1, 1) := by decide +kernel
theorem dX7_puts_20 : decode cX7_puts 20 = .ok (.iload_n 3, 1) := by decide +kernel
theorem dX7_puts_21 : decode cX7_puts 21 = .ok (.iastore, 1) := by decide +kernel
theorem dX7_puts_22 : decode cX7_puts 22 = .ok (.return_, 1) := by decide +kernel
theorem dX7_putsFrom_0 : decode cX7_putsFrom 0 = .ok (.iload_n 1, 1) := by decide +kernel
theorem dX7_putsFrom_1 : decode cX7_putsFrom 1 = .ok (.aload_n 0, 1) := by decide +kernel
theorem dX7_putsFrom_2 : decode cX7_putsFrom 2 = .ok (.getfield 88, 3) := by decide +kernel
theorem dX7_putsFrom_5 : decode cX7_putsFrom 5 = .ok (.if_icmp .ne 62, 3) := by decide +kernel
theorem dX7_putsFrom_8 : decode cX7_putsFrom 8 = .ok (.aload_n 0, 1) := by decide +kernel
theorem dX7_putsFrom_9 : decode cX7_putsFrom 9 = .ok (.invokevirtual 301, 3) := by decide +kernel
theorem dX7_putsFrom_12 : decode cX7_putsFrom 12 = .ok (.istore_n 2, 1) := by decide +kernel
theorem dX7_putsFrom_13 : decode cX7_putsFrom 13 = .ok (.aload_n 0, 1) := by decide +kernel
theorem dX7_putsFrom_14 : decode cX7_putsFrom 14 = .ok (.getfield 304, 3) := by decide +kernel
theorem dX7_putsFrom_17 : decode cX7_putsFrom 17 = .ok (.ifCond .eq 11, 3) := by decide +kernel
theorem dX7_putsFrom_20 : decode cX7_putsFrom 20 = .ok (.iload_n 2, 1) := by decide +kernel
theorem dX7_putsFrom_21 : decode cX7_putsFrom 21 = .ok (.aload_n 0, 1) := by decide +kernel
theorem dX7_putsFrom_22 : decode cX7_putsFrom 22 = .ok (.getfield 307, 3) := by decide +kernel
theorem dX7_putsFrom_25 : decode cX7_putsFrom 25 = .ok (.if_icmp .ge 41, 3) := by decide +kernel
theorem dX7_putsFrom_28 : decode cX7_putsFrom 28 = .ok (.aload_n 0, 1) := by decide +kernel
theorem dX7_putsFrom_29 : decode cX7_putsFrom 29 = .ok (.iconst 1, 1) := by decide +kernel
theorem dX7_putsFrom_30 : decode cX7_putsFrom 30 = .ok (.putfield 304, 3) := by decide +kernel
theorem dX7_putsFrom_33 : decode cX7_putsFrom 33 = .ok (.aload_n 0, 1) := by decide +kernel
theorem dX7_putsFrom_34 : decode cX7_putsFrom 34 = .ok (.iload_n 2, 1) := by decide +kernel
theorem dX7_putsFrom_35 : decode cX7_putsFrom 35 = .ok (.putfield 307, 3) := by decide +kernel
theorem dX7_putsFrom_38 : decode cX7_putsFrom 38 = .ok (.iconst 0, 1) := by decide +kernel
theorem dX7_putsFrom_39 : decode cX7_putsFrom 39 = .ok (.istore_n 3, 1) := by decide +kernel
theorem dX7_putsFrom_40 : decode cX7_putsFrom 40 = .ok (.iload_n 3, 1) := by decide +kernel
theorem dX7_putsFrom_41 : decode cX7_putsFrom 41 = .ok (.aload_n 0, 1) := by decide +kernel
theorem dX7_putsFrom_42 : decode cX7_putsFrom 42 = .ok (.getfield 88, 3) := by decide +kernel
theorem dX7_putsFrom_45 : decode cX7_putsFrom 45 = .ok (.if_icmp .ge 21, 3) := by decide +kernel
theorem dX7_putsFrom_48 : decode cX7_putsFrom 48 = .ok (.aload_n 0, 1) := by decide +kernel
theorem dX7_putsFrom_49 : decode cX7_putsFrom 49 = .ok (.getfield 59, 3) := by decide +kernel
theorem dX7_putsFrom_52 : decode cX7_putsFrom 52 = .ok (.iload_n 3, 1) := by decide +kernel
theorem dX7_putsFrom_53 : decode cX7_putsFrom 53 = .ok (.aload_n 0, 1) := by decide +kernel
theorem dX7_putsFrom_54 : decode cX7_putsFrom 54 = .ok (.getfield 41, 3) := by decide +kernel
theorem dX7_putsFrom_57 : decode cX7_putsFrom 57 = .ok (.iload_n 3, 1) := by decide +kernel
theorem dX7_putsFrom_58 : decode cX7_putsFrom 58 = .ok (.iaload, 1) := by decide +kernel
theorem dX7_putsFrom_59 : decode cX7_putsFrom 59 = .ok (.iastore, 1) := by decide +kernel
theorem dX7_putsFrom_60 : decode cX7_putsFrom 60 = .ok (.iinc 3 1, 3) := by decide +kernel
theorem dX7_putsFrom_63 : decode cX7_putsFrom 63 = .ok (.goto (-23), 3) := by decide +kernel
theorem dX7_putsFrom_66 : decode cX7_putsFrom 66 = .ok (.return_, 1) := by decide +kernel
theorem dX7_putsFrom_67 : decode cX7_putsFrom 67 = .ok (.iconst 0, 1) := by decide +kernel
theorem dX7_putsFrom_68 : decode cX7_putsFrom 68 = .ok (.istore_n 2, 1) := by decide +kernel
theorem dX7_putsFrom_69 : decode cX7_putsFrom 69 = .ok (.iload_n 2, 1) := by decide +kernel
theorem dX7_putsFrom_70 : decode cX7_putsFrom 70 = .ok (.bipush 6, 2) := by decide +kernel
theorem dX7_putsFrom_72 : decode cX7_putsFrom 72 = .ok (.if_icmp .ge 33, 3) := by decide +kernel
theorem dX7_putsFrom_75 : decode cX7_putsFrom 75 = .ok (.aload_n 0, 1) := by decide +kernel
theorem dX7_putsFrom_76 : decode cX7_putsFrom 76 = .ok (.getfield 41, 3) := by decide +kernel
theorem dX7_putsFrom_79 : decode cX7_putsFrom 79 = .ok (.iload_n 1, 1) := by decide +kernel
theorem dX7_putsFrom_80 : decode cX7_putsFrom 80 = .ok (.iload_n 2, 1) := by decide +kernel
theorem dX7_putsFrom_81 : decode cX7_putsFrom 81 = .ok (.iastore, 1) := by decide +kernel
theorem dX7_putsFrom_82 : decode cX7_putsFrom 82 = .ok (.aload_n 0, 1) := by decide +kernel
theorem dX7_putsFrom_83 : decode cX7_putsFrom 83 = .ok (.iload_n 1, 1) := by decide +kernel
theorem dX7_putsFrom_84 : decode cX7_putsFrom 84 = .ok (.iconst 1, 1) := by decide +kernel
theorem dX7_putsFrom_85 : decode cX7_putsFrom 85 = .ok (.iadd, 1) := by decide +kernel
theorem dX7_putsFrom_86 : decode cX7_putsFrom 86 = .ok (.invokevirtual 101, 3) := by decide +kernel
theorem dX7_putsFrom_89 : decode cX7_putsFrom 89 = .ok (.ifCond .ne 10, 3) := by decide +kernel
theorem dX7_putsFrom_92 : decode cX7_putsFrom 92 = .ok (.aload_n 0, 1) := by decide +kernel
theorem dX7_putsFrom_93 : decode cX7_putsFrom 93 = .ok (.iload_n 1, 1) := by decide +kernel
theorem dX7_putsFrom_94 : decode cX7_putsFrom 94 = .ok (.iconst 1, 1) := by decide +kernel
theorem dX7_putsFrom_95 : decode cX7_putsFrom 95 = .ok (.iadd, 1) := by decide +kernel
theorem dX7_putsFrom_96 : decode cX7_putsFrom 96 = .ok (.invokevirtual 310, 3) := by decide +kernel
theorem dX7_putsFrom_99 : decode cX7_putsFrom 99 = .ok (.iinc 2 1, 3) := by decide +kernel
theorem dX7_putsFrom_102 : decode cX7_putsFrom 102 = .ok (.goto (-33), 3) := by decide +kernel
theorem dX7_putsFrom_105 : decode cX7_putsFrom 105 = .ok (.return_, 1) := by decide +kernel
theorem dX7_read_0 : decode cX7_read 0 = .ok (.aload_n 0, 1) := by decide +kernel
theorem dX7_read_1 : decode cX7_read 1 = .ok (.sipush 160, 3) := by decide +kernel
theorem dX7_read_4 : decode cX7_read 4 = .ok (.iload_n 1, 1) := by decide +kernel
theorem dX7_read_5 : decode cX7_read 5 = .ok (.imul, 1) := by decide +kernel
theorem dX7_read_6 : decode cX7_read 6 = .ok (.putfield 136, 3) := by decide +kernel
theorem dX7_read_9 : decode cX7_read 9 = .ok (.aload_n 0, 1) := by decide +kernel
theorem dX7_read_10 : decode cX7_read 10 = .ok (.aload_n 0, 1) := by decide +kernel
theorem dX7_read_11 : decode cX7_read 11 = .ok (.getfield 17, 3) := by decide +kernel
theorem dX7_read_14 : decode cX7_read 14 = .ok (.iload_n 1, 1) := by decide +kernel
theorem dX7_read_15 : decode cX7_read 15 = .ok (.iaload, 1) := by decide +kernel
theorem dX7_read_16 : decode cX7_read 16 = .ok (.putfield 133, 3) := by decide +kernel
theorem dX7_read_19 : decode cX7_read 19 = .ok (.aload_n 0, 1) := by decide +kernel
theorem dX7_read_20 : decode cX7_read 20 = .ok (.iconst 0, 1) := by decide +kernel
theorem dX7_read_21 : decode cX7_read 21 = .ok (.putfield 139, 3) := by decide +kernel
theorem dX7_read_24 : decode cX7_read 24 = .ok (.aload_n 0, 1) := by decide +kernel
theorem dX7_read_25 : decode cX7_read 25 = .ok (.iconst 0, 1) := by decide +kernel
theorem dX7_read_26 : decode cX7_read 26 = .ok (.putfield 176, 3) := by decide +kernel
theorem dX7_read_29 : decode cX7_read 29 = .ok (.aload_n 0, 1) := by decide +kernel
theorem dX7_read_30 : decode cX7_read 30 = .ok (.iconst 0, 1) := by decide +kernel
theorem dX7_read_31 : decode cX7_read 31 = .ok (.putfield 166, 3) := by decide +kernel
theorem dX7_read_34 : decode cX7_read 34 = .ok (.aload_n 0, 1) := by decide +kernel
theorem dX7_read_35 : decode cX7_read 35 = .ok (.invokevirtual 182, 3) := by decide +kernel
theorem dX7_read_38 : decode cX7_read 38 = .ok (.aload_n 0, 1) := by decide +kernel
theorem dX7_read_39 : decode cX7_read 39 = .ok (.aload_n 0, 1) := by decide +kernel
theorem dX7_read_40 : decode cX7_read 40 = .ok (.bipush 115, 2) := by decide +kernel
theorem dX7_read_42 : decode cX7_read 42 = .ok (.bipush 116, 2) := by decide +kernel
theorem dX7_read_44 : decode cX7_read 44 = .ok (.bipush 101, 2) := by decide +kernel
theorem dX7_read_46 : decode cX7_read 46 = .ok (.bipush 112, 2) := by decide +kernel
theorem dX7_read_48 : decode cX7_read 48 = .ok (.bipush 115, 2) := by decide +kernel
theorem dX7_read_50 : decode cX7_read 50 = .ok (.iconst 0, 1) := by decide +kernel
theorem dX7_read_51 : decode cX7_read 51 = .ok (.iconst 0, 1) := by decide +kernel
theorem dX7_read_52 : decode cX7_read 52 = .ok (.iconst 0, 1) := by decide +kernel
theorem dX7_read_53 : decode cX7_read 53 = .ok (.invokevirtual 185, 3) := by decide +kernel
theorem dX7_read_56 : decode cX7_read 56 = .ok (.invokevirtual 240, 3) := by decide +kernel
theorem dX7_read_59 : decode cX7_read 59 = .ok (.istore_n 3, 1) := by decide +kernel
theorem dX7_read_60 : decode cX7_read 60 = .ok (.aload_n 0, 1) := by decide +kernel
theorem dX7_read_61 : decode cX7_read 61 = .ok (.getfield 166, 3) := by decide +kernel
theorem dX7_read_64 : decode cX7_read 64 = .ok (.ifCond .eq 7, 3) := by decide +kernel
theorem dX7_read_67 : decode cX7_read 67 = .ok (.iconst 0, 1) := by decide +kernel
theorem dX7_read_68 : decode cX7_read 68 = .ok (.goto 23, 3) := by decide +kernel
theorem dX7_read_71 : decode cX7_read 71 = .ok (.aload_n 0, 1) := by decide +kernel
theorem dX7_read_72 : decode cX7_read 72 = .ok (.aload_n 0, 1) := by decide +kernel
theorem dX7_read_73 : decode cX7_read 73 = .ok (.bipush 108, 2) := by decide +kernel
theorem dX7_read_75 : decode cX7_read 75 = .ok (.bipush 97, 2) := by decide +kernel
theorem dX7_read_77 : decode cX7_read 77 = .ok (.bipush 116, 2) := by decide +kernel
theorem dX7_read_79 : decode cX7_read 79 = .ok (.bipush 101, 2) := by decide +kernel
theorem dX7_read_81 : decode cX7_read 81 = .ok (.iconst 0, 1) := by decide +kernel
theorem dX7_read_82 : decode cX7_read 82 = .ok (.iconst 0, 1) := by decide +kernel
theorem dX7_read_83 : decode cX7_read 83 = .ok (.iconst 0, 1) := by decide +kernel
theorem dX7_read_84 : decode cX7_read 84 = .ok (.iconst 0, 1) := by decide +kernel
theorem dX7_read_85 : decode cX7_read 85 = .ok (.invokevirtual 185, 3) := by decide +kernel
theorem dX7_read_88 : decode cX7_read 88 = .ok (.invokevirtual 240, 3) := by decide +kernel
theorem dX7_read_91 : decode cX7_read 91 = .ok (.istore 4, 2) := by decide +kernel
theorem dX7_read_93 : decode cX7_read 93 = .ok (.aload_n 0, 1) := by decide +kernel
theorem dX7_read_94 : decode cX7_read 94 = .ok (.getfield 166, 3) := by decide +kernel
theorem dX7_read_97 : decode cX7_read 97 = .ok (.ifCond .eq 7, 3) := by decide +kernel
theorem dX7_read_100 : decode cX7_read 100 = .ok (.iconst 0, 1) := by decide +kernel
theorem dX7_read_101 : decode cX7_read 101 = .ok (.goto 24, 3) := by decide +kernel
theorem dX7_read_104 : decode cX7_read 104 = .ok (.aload_n 0, 1) := by decide +kernel
theorem dX7_read_105 : decode cX7_read 105 = .ok (.aload_n 0, 1) := by decide +kernel
theorem dX7_read_106 : decode cX7_read 106 = .ok (.bipush 109, 2) := by decide +kernel
theorem dX7_read_108 : decode cX7_read 108 = .ok (.bipush 111, 2) := by decide +kernel
theorem dX7_read_110 : decode cX7_read 110 = .ok (.bipush 118, 2) := by decide +kernel
theorem dX7_read_112 : decode cX7_read 112 = .ok (.bipush 101, 2) := by decide +kernel
theorem dX7_read_114 : decode cX7_read 114 = .ok (.bipush 115, 2) := by decide +kernel
theorem dX7_read_116 : decode cX7_read 116 = .ok (.iconst 0, 1) := by decide +kernel
theorem dX7_read_117 : decode cX7_read 117 = .ok (.iconst 0, 1) := by decide +kernel
theorem dX7_read_118 : decode cX7_read 118 = .ok (.iconst 0, 1) := by decide +kernel
theorem dX7_read_119 : decode cX7_read 119 = .ok (.invokevirtual 185, 3) := by decide +kernel
theorem dX7_read_122 : decode cX7_read 122 = .ok (.invokevirtual 240, 3) := by decide +kernel
theorem dX7_read_125 : decode cX7_read 125 = .ok (.istore 5, 2) := by decide +kernel
theorem dX7_read_127 : decode cX7_read 127 = .ok (.aload_n 0, 1) := by decide +kernel
theorem dX7_read_128 : decode cX7_read 128 = .ok (.getfield 166, 3) := by decide +kernel
theorem dX7_read_131 : decode cX7_read 131 = .ok (.ifCond .ne 14, 3) := by decide +kernel
theorem dX7_read_134 : decode cX7_read 134 = .ok (.aload_n 0, 1) := by decide +kernel
theorem dX7_read_135 : decode cX7_read 135 = .ok (.getfield 149, 3) := by decide +kernel
theorem dX7_read_138 : decode cX7_read 138 = .ok (.ifCond .eq 7, 3) := by decide +kernel
theorem dX7_read_141 : decode cX7_read 141 = .ok (.aload_n 0, 1) := by decide +kernel
theorem dX7_read_142 : decode cX7_read 142 = .ok (.invokevirtual 179, 3) := by decide +kernel
theorem dX7_read_145 : decode cX7_read 145 = .ok (.iload_n 2, 1) := by decide +kernel
theorem dX7_read_146 : decode cX7_read 146 = .ok (.ifCond .ne 7, 3) := by decide +kernel
theorem dX7_read_149 : decode cX7_read 149 = .ok (.iload_n 3, 1) := by decide +kernel
theorem dX7_read_150 : decode cX7_read 150 = .ok (.goto 15, 3) := by decide +kernel
theorem dX7_read_153 : decode cX7_read 153 = .ok (.iload_n 2, 1) := by decide +kernel
theorem dX7_read_154 : decode cX7_read 154 = .ok (.iconst 1, 1) := by decide +kernel
theorem dX7_read_155 : decode cX7_read 155 = .ok (.if_icmp .ne 8, 3) := by decide +kernel
theorem dX7_read_158 : decode cX7_read 158 = .ok (.iload 4, 2) := by decide +kernel
theorem dX7_read_160 : decode cX7_read 160 = .ok (.goto 5, 3) := by decide +kernel
theorem dX7_read_163 : decode cX7_read 163 = .ok (.iload 5, 2) := by decide +kernel
theorem dX7_read_165 : decode cX7_read 165 = .ok (.ireturn, 1) := by decide +kernel
theorem dX7_ride_0 : decode cX7_ride 0 = .ok (.iload_n 1, 1) := by decide +kernel

theorem dX6_stand_34 : decode cX6_stand 34 = .ok (.iload_n 1, 1) := by decide +kernel
theorem dX6_stand_35 : decode cX6_stand 35 = .ok (.iconst (-1), 1) := by decide +kernel
theorem dX6_stand_36 : decode cX6_stand 36 = .ok (.if_icmp .ne 13, 3) := by decide +kernel
theorem dX6_stand_39 : decode cX6_stand 39 = .ok (.aload_n 0, 1) := by decide +kernel
theorem dX6_stand_40 : decode cX6_stand 40 = .ok (.getfield 48, 3) := by decide +kernel
theorem dX6_stand_43 : decode cX6_stand 43 = .ok (.getfield 175, 3) := by decide +kernel
theorem dX6_stand_46 : decode cX6_stand 46 = .ok (.goto 12, 3) := by decide +kernel
theorem dX6_stand_49 : decode cX6_stand 49 = .ok (.aload_n 0, 1) := by decide +kernel
theorem dX6_stand_50 : decode cX6_stand 50 = .ok (.getfield 48, 3) := by decide +kernel
theorem dX6_stand_53 : decode cX6_stand 53 = .ok (.getfield 178, 3) := by decide +kernel
theorem dX6_stand_56 : decode cX6_stand 56 = .ok (.iload_n 1, 1) := by decide +kernel
theorem dX6_stand_57 : decode cX6_stand 57 = .ok (.iaload, 1) := by decide +kernel
theorem dX6_stand_58 : decode cX6_stand 58 = .ok (.ireturn, 1) := by decide +kernel
theorem dX6_stands_0 : decode cX6_stands 0 = .ok (.aload_n 0, 1) := by decide +kernel
theorem dX6_stands_1 : decode cX6_stands 1 = .ok (.invokevirtual 145, 3) := by decide +kernel
theorem dX6_stands_4 : decode cX6_stands 4 = .ok (.aload_n 0, 1) := by decide +kernel
theorem dX6_stands_5 : decode cX6_stands 5 = .ok (.getfield 48, 3) := by decide +kernel
theorem dX6_stands_8 : decode cX6_stands 8 = .ok (.aload_n 0, 1) := by decide +kernel
theorem dX6_stands_9 : decode cX6_stands 9 = .ok (.getfield 41, 3) := by decide +kernel
theorem dX6_stands_12 : decode cX6_stands 12 = .ok (.invokevirtual 171, 3) := by decide +kernel
theorem dX6_stands_15 : decode cX6_stands 15 = .ok (.iconst 0, 1) := by decide +kernel
theorem dX6_stands_16 : decode cX6_stands 16 = .ok (.istore_n 1, 1) := by decide +kernel
theorem dX6_stands_17 : decode cX6_stands 17 = .ok (.iconst 0, 1) := by decide +kernel
theorem dX6_stands_18 : decode cX6_stands 18 = .ok (.istore_n 2, 1) := by decide +kernel
theorem dX6_stands_19 : decode cX6_stands 19 = .ok (.iload_n 2, 1) := by decide +kernel
theorem dX6_stands_20 : decode cX6_stands 20 = .ok (.aload_n 0, 1) := by decide +kernel
theorem dX6_stands_21 : decode cX6_stands 21 = .ok (.getfield 10, 3) := by decide +kernel
theorem dX6_stands_24 : decode cX6_stands 24 = .ok (.getfield 98, 3) := by decide +kernel
theorem dX6_stands_27 : decode cX6_stands 27 = .ok (.if_icmp .ge 51, 3) := by decide +kernel
theorem dX6_stands_30 : decode cX6_stands 30 = .ok (.aload_n 0, 1) := by decide +kernel
theorem dX6_stands_31 : decode cX6_stands 31 = .ok (.getfield 10, 3) := by decide +kernel
theorem dX6_stands_34 : decode cX6_stands 34 = .ok (.getfield 113, 3) := by decide +kernel
theorem dX6_stands_37 : decode cX6_stands 37 = .ok (.iload_n 2, 1) := by decide +kernel
theorem dX6_stands_38 : decode cX6_stands 38 = .ok (.iaload, 1) := by decide +kernel
theorem dX6_stands_39 : decode cX6_stands 39 = .ok (.aload_n 0, 1) := by decide +kernel
theorem dX6_stands_40 : decode cX6_stands 40 = .ok (.getfield 48, 3) := by decide +kernel
theorem dX6_stands_43 : decode cX6_stands 43 = .ok (.getfield 178, 3) := by decide +kernel
theorem dX6_stands_46 : decode cX6_stands 46 = .ok (.iload_n 2, 1) := by decide +kernel
theorem dX6_stands_47 : decode cX6_stands 47 = .ok (.iaload, 1) := by decide +kernel
theorem dX6_stands_48 : decode cX6_stands 48 = .ok (.if_icmp .eq 24, 3) := by decide +kernel
theorem dX6_stands_51 : decode cX6_stands 51 = .ok (.iinc 1 1, 3) := by decide +kernel
theorem dX6_stands_54 : decode cX6_stands 54 = .ok (.aload_n 0, 1) := by decide +kernel
theorem dX6_stands_55 : decode cX6_stands 55 = .ok (.getfield 10, 3) := by decide +kernel
theorem dX6_stands_58 : decode cX6_stands 58 = .ok (.getfield 113, 3) := by decide +kernel
theorem dX6_stands_61 : decode cX6_stands 61 = .ok (.iload_n 2, 1) := by decide +kernel
theorem dX6_stands_62 : decode cX6_stands 62 = .ok (.aload_n 0, 1) := by decide +kernel
theorem dX6_stands_63 : decode cX6_stands 63 = .ok (.getfield 48, 3) := by decide +kernel
theorem dX6_stands_66 : decode cX6_stands 66 = .ok (.getfield 178, 3) := by decide +kernel
theorem dX6_stands_69 : decode cX6_stands 69 = .ok (.iload_n 2, 1) := by decide +kernel
theorem dX6_stands_70 : decode cX6_stands 70 = .ok (.iaload, 1) := by decide +kernel
theorem dX6_stands_71 : decode cX6_stands 71 = .ok (.iastore, 1) := by decide +kernel
theorem dX6_stands_72 : decode cX6_stands 72 = .ok (.iinc 2 1, 3) := by decide +kernel
theorem dX6_stands_75 : decode cX6_stands 75 = .ok (.goto (-56), 3) := by decide +kernel
theorem dX6_stands_78 : decode cX6_stands 78 = .ok (.iload_n 1, 1) := by decide +kernel
theorem dX6_stands_79 : decode cX6_stands 79 = .ok (.ireturn, 1) := by decide +kernel
theorem dX6_taken_0 : decode cX6_taken 0 = .ok (.iload_n 2, 1) := by decide +kernel
theorem dX6_taken_1 : decode cX6_taken 1 = .ok (.ifCond .lt 9, 3) := by decide +kernel
theorem dX6_taken_4 : decode cX6_taken 4 = .ok (.iload_n 2, 1) := by decide +kernel
theorem dX6_taken_5 : decode cX6_taken 5 = .ok (.bipush 6, 2) := by decide +kernel
theorem dX6_taken_7 : decode cX6_taken 7 = .ok (.if_icmp .lt 6, 3) := by decide +kernel
theorem dX6_taken_10 : decode cX6_taken 10 = .ok (.bipush (-2), 2) := by decide +kernel
theorem dX6_taken_12 : decode cX6_taken 12 = .ok (.ireturn, 1) := by decide +kernel
theorem dX6_taken_13 : decode cX6_taken 13 = .ok (.aload_n 0, 1) := by decide +kernel
theorem dX6_taken_14 : decode cX6_taken 14 = .ok (.getfield 10, 3) := by decide +kernel
theorem dX6_taken_17 : decode cX6_taken 17 = .ok (.iload_n 1, 1) := by decide +kernel
theorem dX6_taken_18 : decode cX6_taken 18 = .ok (.invokevirtual 68, 3) := by decide +kernel
theorem dX6_taken_21 : decode cX6_taken 21 = .ok (.ifCond .ne 6, 3) := by decide +kernel
theorem dX6_taken_24 : decode cX6_taken 24 = .ok (.bipush (-11), 2) := by decide +kernel
theorem dX6_taken_26 : decode cX6_taken 26 = .ok (.ireturn, 1) := by decide +kernel
theorem dX6_taken_27 : decode cX6_taken 27 = .ok (.aload_n 0, 1) := by decide +kernel
theorem dX6_taken_28 : decode cX6_taken 28 = .ok (.getfield 10, 3) := by decide +kernel
theorem dX6_taken_31 : decode cX6_taken 31 = .ok (.getfield 101, 3) := by decide +kernel
theorem dX6_taken_34 : decode cX6_taken 34 = .ok (.iload_n 1, 1) := by decide +kernel
theorem dX6_taken_35 : decode cX6_taken 35 = .ok (.iaload, 1) := by decide +kernel
theorem dX6_taken_36 : decode cX6_taken 36 = .ok (.iload_n 2, 1) := by decide +kernel
theorem dX6_taken_37 : decode cX6_taken 37 = .ok (.invokestatic 265, 3) := by decide +kernel
theorem dX6_taken_40 : decode cX6_taken 40 = .ok (.ifCond .eq 15, 3) := by decide +kernel
theorem dX6_taken_43 : decode cX6_taken 43 = .ok (.aload_n 0, 1) := by decide +kernel
theorem dX6_taken_44 : decode cX6_taken 44 = .ok (.getfield 10, 3) := by decide +kernel
theorem dX6_taken_47 : decode cX6_taken 47 = .ok (.getfield 104, 3) := by decide +kernel
theorem dX6_taken_50 : decode cX6_taken 50 = .ok (.iload_n 1, 1) := by decide +kernel
theorem dX6_taken_51 : decode cX6_taken 51 = .ok (.iaload, 1) := by decide +kernel
theorem dX6_taken_52 : decode cX6_taken 52 = .ok (.goto 5, 3) := by decide +kernel
theorem dX6_taken_55 : decode cX6_taken 55 = .ok (.bipush (-13), 2) := by decide +kernel
theorem dX6_taken_57 : decode cX6_taken 57 = .ok (.ireturn, 1) := by decide +kernel
theorem dX6_text_0 : decode cX6_text 0 = .ok (.aload_n 0, 1) := by decide +kernel
theorem dX6_text_1 : decode cX6_text 1 = .ok (.getfield 55, 3) := by decide +kernel
theorem dX6_text_4 : decode cX6_text 4 = .ok (.bipush 6, 2) := by decide +kernel
theorem dX6_text_6 : decode cX6_text 6 = .ok (.if_icmp .lt 6, 3) := by decide +kernel
theorem dX6_text_9 : decode cX6_text 9 = .ok (.bipush (-4), 2) := by decide +kernel
theorem dX6_text_11 : decode cX6_text 11 = .ok (.ireturn, 1) := by decide +kernel
theorem dX6_text_12 : decode cX6_text 12 = .ok (.aload_n 0, 1) := by decide +kernel
theorem dX6_text_13 : decode cX6_text 13 = .ok (.getfield 22, 3) := by decide +kernel
theorem dX6_text_16 : decode cX6_text 16 = .ok (.invokevirtual 131, 3) := by decide +kernel
theorem dX6_text_19 : decode cX6_text 19 = .ok (.istore_n 1, 1) := by decide +kernel
theorem dX6_text_20 : decode cX6_text 20 = .ok (.aload_n 0, 1) := by decide +kernel
theorem dX6_text_21 : decode cX6_text 21 = .ok (.getfield 22, 3) := by decide +kernel
theorem dX6_text_24 : decode cX6_text 24 = .ok (.iconst 0, 1) := by decide +kernel
theorem dX6_text_25 : decode cX6_text 25 = .ok (.putfield 125, 3) := by decide +kernel
theorem dX6_text_28 : decode cX6_text 28 = .ok (.iload_n 1, 1) := by decide +kernel
theorem dX6_text_29 : decode cX6_text 29 = .ok (.ifCond .ne 14, 3) := by decide +kernel
theorem dX6_text_32 : decode cX6_text 32 = .ok (.bipush (-100), 2) := by decide +kernel
theorem dX6_text_34 : decode cX6_text 34 = .ok (.aload_n 0, 1) := by decide +kernel
theorem dX6_text_35 : decode cX6_text 35 = .ok (.getfield 22, 3) := by decide +kernel
theorem dX6_text_38 : decode cX6_text 38 = .ok (.getfield 135, 3) := by decide +kernel
theorem dX6_text_41 : decode cX6_text 41 = .ok (.isub, 1) := by decide +kernel
theorem dX6_text_42 : decode cX6_text 42 = .ok (.ireturn, 1) := by decide +kernel
theorem dX6_text_43 : decode cX6_text 43 = .ok (.aload_n 0, 1) := by decide +kernel
theorem dX6_text_44 : decode cX6_text 44 = .ok (.getfield 28, 3) := by decide +kernel
theorem dX6_text_47 : decode cX6_text 47 = .ok (.aload_n 0, 1) := by decide +kernel
theorem dX6_text_48 : decode cX6_text 48 = .ok (.getfield 55, 3) := by decide +kernel
theorem dX6_text_51 : decode cX6_text 51 = .ok (.aload_n 0, 1) := by decide +kernel
theorem dX6_text_52 : decode cX6_text 52 = .ok (.getfield 22, 3) := by decide +kernel
theorem dX6_text_55 : decode cX6_text 55 = .ok (.invokevirtual 138, 3) := by decide +kernel
theorem dX6_text_58 : decode cX6_text 58 = .ok (.aastore, 1) := by decide +kernel
theorem dX6_text_59 : decode cX6_text 59 = .ok (.aload_n 0, 1) := by decide +kernel
theorem dX6_text_60 : decode cX6_text 60 = .ok (.dup, 1) := by decide +kernel
theorem dX6_text_61 : decode cX6_text 61 = .ok (.getfield 55, 3) := by decide +kernel
theorem dX6_text_64 : decode cX6_text 64 = .ok (.iconst 1, 1) := by decide +kernel
theorem dX6_text_65 : decode cX6_text 65 = .ok (.iadd, 1) := by decide +kernel
theorem dX6_text_66 : decode cX6_text 66 = .ok (.putfield 55, 3) := by decide +kernel
theorem dX6_text_69 : decode cX6_text 69 = .ok (.aload_n 0, 1) := by decide +kernel
theorem dX6_text_70 : decode cX6_text 70 = .ok (.getfield 55, 3) := by decide +kernel
theorem dX6_text_73 : decode cX6_text 73 = .ok (.iconst 1, 1) := by decide +kernel
theorem dX6_text_74 : decode cX6_text 74 = .ok (.isub, 1) := by decide +kernel
theorem dX6_text_75 : decode cX6_text 75 = .ok (.ireturn, 1) := by decide +kernel
theorem dX6_told_0 : decode cX6_told 0 = .ok (.aload_n 0, 1) := by decide +kernel
theorem dX6_told_1 : decode cX6_told 1 = .ok (.getfield 10, 3) := by decide +kernel
theorem dX6_told_4 : decode cX6_told 4 = .ok (.iload_n 1, 1) := by decide +kernel
theorem dX6_told_5 : decode cX6_told 5 = .ok (.invokevirtual 68, 3) := by decide +kernel
theorem dX6_told_8 : decode cX6_told 8 = .ok (.ifCond .eq 13, 3) := by decide +kernel
theorem dX6_told_11 : decode cX6_told 11 = .ok (.iload_n 2, 1) := by decide +kernel
theorem dX6_told_12 : decode cX6_told 12 = .ok (.ifCond .lt 9, 3) := by decide +kernel
theorem dX6_told_15 : decode cX6_told 15 = .ok (.iload_n 2, 1) := by decide +kernel
theorem dX6_told_16 : decode cX6_told 16 = .ok (.bipush 6, 2) := by decide +kernel
theorem dX6_told_18 : decode cX6_told 18 = .ok (.if_icmp .le 6, 3) := by decide +kernel
theorem dX6_told_21 : decode cX6_told 21 = .ok (.bipush (-2), 2) := by decide +kernel
theorem dX6_told_23 : decode cX6_told 23 = .ok (.ireturn, 1) := by decide +kernel
theorem dX6_told_24 : decode cX6_told 24 = .ok (.aload_n 0, 1) := by decide +kernel
theorem dX6_told_25 : decode cX6_told 25 = .ok (.getfield 10, 3) := by decide +kernel
theorem dX6_told_28 : decode cX6_told 28 = .ok (.iload_n 2, 1) := by decide +kernel
theorem dX6_told_29 : decode cX6_told 29 = .ok (.invokevirtual 79, 3) := by decide +kernel
theorem dX6_told_32 : decode cX6_told 32 = .ok (.iload_n 1, 1) := by decide +kernel
theorem dX6_told_33 : decode cX6_told 33 = .ok (.iaload, 1) := by decide +kernel
theorem dX6_told_34 : decode cX6_told 34 = .ok (.ireturn, 1) := by decide +kernel
theorem dX6_weightOf_0 : decode cX6_weightOf 0 = .ok (.lconst 1, 1) := by decide +kernel
theorem dX6_weightOf_1 : decode cX6_weightOf 1 = .ok (.lstore_n 2, 1) := by decide +kernel
theorem dX6_weightOf_2 : decode cX6_weightOf 2 = .ok (.iconst 0, 1) := by decide +kernel
theorem dX6_weightOf_3 : decode cX6_weightOf 3 = .ok (.istore 4, 2) := by decide +kernel
theorem dX6_weightOf_5 : decode cX6_weightOf 5 = .ok (.iload 4, 2) := by decide +kernel
theorem dX6_weightOf_7 : decode cX6_weightOf 7 = .ok (.aload_n 0, 1) := by decide +kernel
theorem dX6_weightOf_8 : decode cX6_weightOf 8 = .ok (.getfield 10, 3) := by decide +kernel
theorem dX6_weightOf_11 : decode cX6_weightOf 11 = .ok (.getfield 98, 3) := by decide +kernel
theorem dX6_weightOf_14 : decode cX6_weightOf 14 = .ok (.if_icmp .ge 49, 3) := by decide +kernel
theorem dX6_weightOf_17 : decode cX6_weightOf 17 = .ok (.lload_n 2, 1) := by decide +kernel
theorem dX6_weightOf_18 : decode cX6_weightOf 18 = .ok (.iload_n 1, 1) := by decide +kernel
theorem dX6_weightOf_19 : decode cX6_weightOf 19 = .ok (.iload 4, 2) := by decide +kernel
theorem dX6_weightOf_21 : decode cX6_weightOf 21 = .ok (.ishr, 1) := by decide +kernel
theorem dX6_weightOf_22 : decode cX6_weightOf 22 = .ok (.iconst 1, 1) := by decide +kernel
theorem dX6_weightOf_23 : decode cX6_weightOf 23 = .ok (.iand, 1) := by decide +kernel
theorem dX6_weightOf_24 : decode cX6_weightOf 24 = .ok (.ifCond .eq 17, 3) := by decide +kernel
theorem dX6_weightOf_27 : decode cX6_weightOf 27 = .ok (.aload_n 0, 1) := by decide +kernel
theorem dX6_weightOf_28 : decode cX6_weightOf 28 = .ok (.getfield 10, 3) := by decide +kernel
theorem dX6_weightOf_31 : decode cX6_weightOf 31 = .ok (.getfield 116, 3) := by decide +kernel
theorem dX6_weightOf_34 : decode cX6_weightOf 34 = .ok (.iload 4, 2) := by decide +kernel
theorem dX6_weightOf_36 : decode cX6_weightOf 36 = .ok (.iaload, 1) := by decide +kernel
theorem dX6_weightOf_37 : decode cX6_weightOf 37 = .ok (.i2l, 1) := by decide +kernel
theorem dX6_weightOf_38 : decode cX6_weightOf 38 = .ok (.goto 17, 3) := by decide +kernel
theorem dX6_weightOf_41 : decode cX6_weightOf 41 = .ok (.bipush 100, 2) := by decide +kernel
theorem dX6_weightOf_43 : decode cX6_weightOf 43 = .ok (.aload_n 0, 1) := by decide +kernel
theorem dX6_weightOf_44 : decode cX6_weightOf 44 = .ok (.getfield 10, 3) := by decide +kernel
theorem dX6_weightOf_47 : decode cX6_weightOf 47 = .ok (.getfield 116, 3) := by decide +kernel
theorem dX6_weightOf_50 : decode cX6_weightOf 50 = .ok (.iload 4, 2) := by decide +kernel
theorem dX6_weightOf_52 : decode cX6_weightOf 52 = .ok (.iaload, 1) := by decide +kernel
theorem dX6_weightOf_53 : decode cX6_weightOf 53 = .ok (.isub, 1) := by decide +kernel
theorem dX6_weightOf_54 : decode cX6_weightOf 54 = .ok (.i2l, 1) := by decide +kernel
theorem dX6_weightOf_55 : decode cX6_weightOf 55 = .ok (.lmul, 1) := by decide +kernel
theorem dX6_weightOf_56 : decode cX6_weightOf 56 = .ok (.lstore_n 2, 1) := by decide +kernel
theorem dX6_weightOf_57 : decode cX6_weightOf 57 = .ok (.iinc 4 1, 3) := by decide +kernel
theorem dX6_weightOf_60 : decode cX6_weightOf 60 = .ok (.goto (-55), 3) := by decide +kernel
theorem dX6_weightOf_63 : decode cX6_weightOf 63 = .ok (.lload_n 2, 1) := by decide +kernel
theorem dX6_weightOf_64 : decode cX6_weightOf 64 = .ok (.lreturn, 1) := by decide +kernel
theorem dX6_whichFit_0 : decode cX6_whichFit 0 = .ok (.iconst 0, 1) := by decide +kernel
theorem dX6_whichFit_1 : decode cX6_whichFit 1 = .ok (.istore 6, 2) := by decide +kernel
theorem dX6_whichFit_3 : decode cX6_whichFit 3 = .ok (.iload 4, 2) := by decide +kernel
theorem dX6_whichFit_5 : decode cX6_whichFit 5 = .ok (.istore 7, 2) := by decide +kernel
theorem dX6_whichFit_7 : decode cX6_whichFit 7 = .ok (.iload 7, 2) := by decide +kernel
theorem dX6_whichFit_9 : decode cX6_whichFit 9 = .ok (.iload 5, 2) := by decide +kernel
theorem dX6_whichFit_11 : decode cX6_whichFit 11 = .ok (.if_icmp .gt 71, 3) := by decide +kernel
theorem dX6_whichFit_14 : decode cX6_whichFit 14 = .ok (.aload_n 2, 1) := by decide +kernel
theorem dX6_whichFit_15 : decode cX6_whichFit 15 = .ok (.iload_n 3, 1) := by decide +kernel
theorem dX6_whichFit_16 : decode cX6_whichFit 16 = .ok (.iload 7, 2) := by decide +kernel
theorem dX6_whichFit_18 : decode cX6_whichFit 18 = .ok (.iastore, 1) := by decide +kernel
theorem dX6_whichFit_19 : decode cX6_whichFit 19 = .ok (.aload_n 0, 1) := by decide +kernel
theorem dX6_whichFit_20 : decode cX6_whichFit 20 = .ok (.getfield 41, 3) := by decide +kernel
theorem dX6_whichFit_23 : decode cX6_whichFit 23 = .ok (.getfield 181, 3) := by decide +kernel
theorem dX6_whichFit_26 : decode cX6_whichFit 26 = .ok (.iload_n 3, 1) := by decide +kernel
theorem dX6_whichFit_27 : decode cX6_whichFit 27 = .ok (.aload_n 0, 1) := by decide +kernel
theorem dX6_whichFit_28 : decode cX6_whichFit 28 = .ok (.getfield 10, 3) := by decide +kernel
theorem dX6_whichFit_31 : decode cX6_whichFit 31 = .ok (.getfield 98, 3) := by decide +kernel
theorem dX6_whichFit_34 : decode cX6_whichFit 34 = .ok (.invokevirtual 119, 3) := by decide +kernel
theorem dX6_whichFit_37 : decode cX6_whichFit 37 = .ok (.ifCond .eq 39, 3) := by decide +kernel
theorem dX6_whichFit_40 : decode cX6_whichFit 40 = .ok (.aload_n 0, 1) := by decide +kernel
theorem dX6_whichFit_41 : decode cX6_whichFit 41 = .ok (.getfield 41, 3) := by decide +kernel
theorem dX6_whichFit_44 : decode cX6_whichFit 44 = .ok (.iconst 1, 1) := by decide +kernel
theorem dX6_whichFit_45 : decode cX6_whichFit 45 = .ok (.aload_n 0, 1) := by decide +kernel
theorem dX6_whichFit_46 : decode cX6_whichFit 46 = .ok (.getfield 10, 3) := by decide +kernel
theorem dX6_whichFit_49 : decode cX6_whichFit 49 = .ok (.getfield 98, 3) := by decide +kernel
theorem dX6_whichFit_52 : decode cX6_whichFit 52 = .ok (.ishl, 1) := by decide +kernel
theorem dX6_whichFit_53 : decode cX6_whichFit 53 = .ok (.iconst 1, 1) := by decide +kernel
theorem dX6_whichFit_54 : decode cX6_whichFit 54 = .ok (.isub, 1) := by decide +kernel
theorem dX6_whichFit_55 : decode cX6_whichFit 55 = .ok (.invokevirtual 203, 3) := by decide +kernel
theorem dX6_whichFit_58 : decode cX6_whichFit 58 = .ok (.aload_n 0, 1) := by decide +kernel
theorem dX6_whichFit_59 : decode cX6_whichFit 59 = .ok (.aload_n 1, 1) := by decide +kernel
theorem dX6_whichFit_60 : decode cX6_whichFit 60 = .ok (.invokevirtual 221, 3) := by decide +kernel
theorem dX6_whichFit_63 : decode cX6_whichFit 63 = .ok (.iconst (-1), 1) := by decide +kernel
theorem dX6_whichFit_64 : decode cX6_whichFit 64 = .ok (.if_icmp .ne 12, 3) := by decide +kernel
theorem dX6_whichFit_67 : decode cX6_whichFit 67 = .ok (.iload 6, 2) := by decide +kernel
theorem dX6_whichFit_69 : decode cX6_whichFit 69 = .ok (.iconst 1, 1) := by decide +kernel
theorem dX6_whichFit_70 : decode cX6_whichFit 70 = .ok (.iload 7, 2) := by decide +kernel
theorem dX6_whichFit_72 : decode cX6_whichFit 72 = .ok (.ishl, 1) := by decide +kernel
theorem dX6_whichFit_73 : decode cX6_whichFit 73 = .ok (.ior, 1) := by decide +kernel
theorem dX6_whichFit_74 : decode cX6_whichFit 74 = .ok (.istore 6, 2) := by decide +kernel
theorem dX6_whichFit_76 : decode cX6_whichFit 76 = .ok (.iinc 7 1, 3) := by decide +kernel
theorem dX6_whichFit_79 : decode cX6_whichFit 79 = .ok (.goto (-72), 3) := by decide +kernel
theorem dX6_whichFit_82 : decode cX6_whichFit 82 = .ok (.iload 6, 2) := by decide +kernel
theorem dX6_whichFit_84 : decode cX6_whichFit 84 = .ok (.ireturn, 1) := by decide +kernel
theorem dX6_whoShouldWalk_0 : decode cX6_whoShouldWalk 0 = .ok (.iconst (-1), 1) := by decide +kernel
theorem dX6_whoShouldWalk_1 : decode cX6_whoShouldWalk 1 = .ok (.istore_n 1, 1) := by decide +kernel
theorem dX6_whoShouldWalk_2 : decode cX6_whoShouldWalk 2 = .ok (.iconst 0, 1) := by decide +kernel
theorem dX6_whoShouldWalk_3 : decode cX6_whoShouldWalk 3 = .ok (.istore_n 2, 1) := by decide +kernel
theorem dX6_whoShouldWalk_4 : decode cX6_whoShouldWalk 4 = .ok (.iconst 1, 1) := by decide +kernel
theorem dX6_whoShouldWalk_5 : decode cX6_whoShouldWalk 5 = .ok (.aload_n 0, 1) := by decide +kernel
theorem dX6_whoShouldWalk_6 : decode cX6_whoShouldWalk 6 = .ok (.getfield 10, 3) := by decide +kernel
theorem dX6_whoShouldWalk_9 : decode cX6_whoShouldWalk 9 = .ok (.getfield 98, 3) := by decide +kernel
theorem dX6_whoShouldWalk_12 : decode cX6_whoShouldWalk 12 = .ok (.ishl, 1) := by decide +kernel
theorem dX6_whoShouldWalk_13 : decode cX6_whoShouldWalk 13 = .ok (.iconst 1, 1) := by decide +kernel
theorem dX6_whoShouldWalk_14 : decode cX6_whoShouldWalk 14 = .ok (.isub, 1) := by decide +kernel
theorem dX6_whoShouldWalk_15 : decode cX6_whoShouldWalk 15 = .ok (.istore_n 3, 1) := by decide +kernel
theorem dX6_whoShouldWalk_16 : decode cX6_whoShouldWalk 16 = .ok (.iconst 0, 1) := by decide +kernel
theorem dX6_whoShouldWalk_17 : decode cX6_whoShouldWalk 17 = .ok (.istore 4, 2) := by decide +kernel
theorem dX6_whoShouldWalk_19 : decode cX6_whoShouldWalk 19 = .ok (.iload 4, 2) := by decide +kernel
theorem dX6_whoShouldWalk_21 : decode cX6_whoShouldWalk 21 = .ok (.aload_n 0, 1) := by decide +kernel
theorem dX6_whoShouldWalk_22 : decode cX6_whoShouldWalk 22 = .ok (.getfield 10, 3) := by decide +kernel
theorem dX6_whoShouldWalk_25 : decode cX6_whoShouldWalk 25 = .ok (.getfield 98, 3) := by decide +kernel
theorem dX6_whoShouldWalk_28 : decode cX6_whoShouldWalk 28 = .ok (.if_icmp .ge 50, 3) := by decide +kernel
theorem dX6_whoShouldWalk_31 : decode cX6_whoShouldWalk 31 = .ok (.aload_n 0, 1) := by decide +kernel
theorem dX6_whoShouldWalk_32 : decode cX6_whoShouldWalk 32 = .ok (.getfield 41, 3) := by decide +kernel
theorem dX6_whoShouldWalk_35 : decode cX6_whoShouldWalk 35 = .ok (.iload_n 3, 1) := by decide +kernel
theorem dX6_whoShouldWalk_36 : decode cX6_whoShouldWalk 36 = .ok (.iconst 1, 1) := by decide +kernel
theorem dX6_whoShouldWalk_37 : decode cX6_whoShouldWalk 37 = .ok (.iload 4, 2) := by decide +kernel
theorem dX6_whoShouldWalk_39 : decode cX6_whoShouldWalk 39 = .ok (.ishl, 1) := by decide +kernel
theorem dX6_whoShouldWalk_40 : decode cX6_whoShouldWalk 40 = .ok (.iconst (-1), 1) := by decide +kernel
theorem dX6_whoShouldWalk_41 : decode cX6_whoShouldWalk 41 = .ok (.ixor, 1) := by decide +kernel
theorem dX6_whoShouldWalk_42 : decode cX6_whoShouldWalk 42 = .ok (.iand, 1) := by decide +kernel
theorem dX6_whoShouldWalk_43 : decode cX6_whoShouldWalk 43 = .ok (.invokevirtual 203, 3) := by decide +kernel
theorem dX6_whoShouldWalk_46 : decode cX6_whoShouldWalk 46 = .ok (.aload_n 0, 1) := by decide +kernel
theorem dX6_whoShouldWalk_47 : decode cX6_whoShouldWalk 47 = .ok (.getfield 41, 3) := by decide +kernel
theorem dX6_whoShouldWalk_50 : decode cX6_whoShouldWalk 50 = .ok (.invokevirtual 148, 3) := by decide +kernel
theorem dX6_whoShouldWalk_53 : decode cX6_whoShouldWalk 53 = .ok (.istore 5, 2) := by decide +kernel
theorem dX6_whoShouldWalk_55 : decode cX6_whoShouldWalk 55 = .ok (.iload_n 1, 1) := by decide +kernel
theorem dX6_whoShouldWalk_56 : decode cX6_whoShouldWalk 56 = .ok (.iconst (-1), 1) := by decide +kernel
theorem dX6_whoShouldWalk_57 : decode cX6_whoShouldWalk 57 = .ok (.if_icmp .eq 9, 3) := by decide +kernel
theorem dX6_whoShouldWalk_60 : decode cX6_whoShouldWalk 60 = .ok (.iload 5, 2) := by decide +kernel
theorem dX6_whoShouldWalk_62 : decode cX6_whoShouldWalk 62 = .ok (.iload_n 2, 1) := by decide +kernel
theorem dX6_whoShouldWalk_63 : decode cX6_whoShouldWalk 63 = .ok (.if_icmp .ge 9, 3) := by decide +kernel
theorem dX6_whoShouldWalk_66 : decode cX6_whoShouldWalk 66 = .ok (.iload 4, 2) := by decide +kernel
theorem dX6_whoShouldWalk_68 : decode cX6_whoShouldWalk 68 = .ok (.istore_n 1, 1) := by decide +kernel
theorem dX6_whoShouldWalk_69 : decode cX6_whoShouldWalk 69 = .ok (.iload 5, 2) := by decide +kernel
theorem dX6_whoShouldWalk_71 : decode cX6_whoShouldWalk 71 = .ok (.istore_n 2, 1) := by decide +kernel
theorem dX6_whoShouldWalk_72 : decode cX6_whoShouldWalk 72 = .ok (.iinc 4 1, 3) := by decide +kernel
theorem dX6_whoShouldWalk_75 : decode cX6_whoShouldWalk 75 = .ok (.goto (-56), 3) := by decide +kernel
theorem dX6_whoShouldWalk_78 : decode cX6_whoShouldWalk 78 = .ok (.iload_n 1, 1) := by decide +kernel
theorem dX6_whoShouldWalk_79 : decode cX6_whoShouldWalk 79 = .ok (.ireturn, 1) := by decide +kernel
theorem dX7_added_0 : decode cX7_added 0 = .ok (.aload_n 0, 1) := by decide +kernel
theorem dX7_added_1 : decode cX7_added 1 = .ok (.invokevirtual 224, 3) := by decide +kernel
theorem dX7_added_4 : decode cX7_added 4 = .ok (.istore_n 1, 1) := by decide +kernel
theorem dX7_added_5 : decode cX7_added 5 = .ok (.aload_n 0, 1) := by decide +kernel
theorem dX7_added_6 : decode cX7_added 6 = .ok (.bipush 43, 2) := by decide +kernel
theorem dX7_added_8 : decode cX7_added 8 = .ok (.invokevirtual 207, 3) := by decide +kernel
theorem dX7_added_11 : decode cX7_added 11 = .ok (.ifCond .ne 12, 3) := by decide +kernel
theorem dX7_added_14 : decode cX7_added 14 = .ok (.aload_n 0, 1) := by decide +kernel
theorem dX7_added_15 : decode cX7_added 15 = .ok (.bipush 45, 2) := by decide +kernel
theorem dX7_added_17 : decode cX7_added 17 = .ok (.invokevirtual 207, 3) := by decide +kernel
theorem dX7_added_20 : decode cX7_added 20 = .ok (.ifCond .eq 46, 3) := by decide +kernel
theorem dX7_added_23 : decode cX7_added 23 = .ok (.aload_n 0, 1) := by decide +kernel
theorem dX7_added_24 : decode cX7_added 24 = .ok (.getfield 160, 3) := by decide +kernel
theorem dX7_added_27 : decode cX7_added 27 = .ok (.ldc2_w 227, 3) := by decide +kernel
theorem dX7_added_30 : decode cX7_added 30 = .ok (.lcmp, 1) := by decide +kernel
theorem dX7_added_31 : decode cX7_added 31 = .ok (.ifCond .ne 7, 3) := by decide +kernel
theorem dX7_added_34 : decode cX7_added 34 = .ok (.iconst 1, 1) := by decide +kernel
theorem dX7_added_35 : decode cX7_added 35 = .ok (.goto 4, 3) := by decide +kernel
theorem dX7_added_38 : decode cX7_added 38 = .ok (.iconst 0, 1) := by decide +kernel
theorem dX7_added_39 : decode cX7_added 39 = .ok (.istore_n 2, 1) := by decide +kernel
theorem dX7_added_40 : decode cX7_added 40 = .ok (.aload_n 0, 1) := by decide +kernel
theorem dX7_added_41 : decode cX7_added 41 = .ok (.invokevirtual 182, 3) := by decide +kernel
theorem dX7_added_44 : decode cX7_added 44 = .ok (.aload_n 0, 1) := by decide +kernel
theorem dX7_added_45 : decode cX7_added 45 = .ok (.invokevirtual 224, 3) := by decide +kernel
theorem dX7_added_48 : decode cX7_added 48 = .ok (.istore_n 3, 1) := by decide +kernel
theorem dX7_added_49 : decode cX7_added 49 = .ok (.iload_n 2, 1) := by decide +kernel
theorem dX7_added_50 : decode cX7_added 50 = .ok (.ifCond .eq 9, 3) := by decide +kernel
theorem dX7_added_53 : decode cX7_added 53 = .ok (.iload_n 1, 1) := by decide +kernel
theorem dX7_added_54 : decode cX7_added 54 = .ok (.iload_n 3, 1) := by decide +kernel
theorem dX7_added_55 : decode cX7_added 55 = .ok (.iadd, 1) := by decide +kernel
theorem dX7_added_56 : decode cX7_added 56 = .ok (.goto 6, 3) := by decide +kernel
theorem dX7_added_59 : decode cX7_added 59 = .ok (.iload_n 1, 1) := by decide +kernel
theorem dX7_added_60 : decode cX7_added 60 = .ok (.iload_n 3, 1) := by decide +kernel
theorem dX7_added_61 : decode cX7_added 61 = .ok (.isub, 1) := by decide +kernel
theorem dX7_added_62 : decode cX7_added 62 = .ok (.istore_n 1, 1) := by decide +kernel
theorem dX7_added_63 : decode cX7_added 63 = .ok (.goto (-58), 3) := by decide +kernel
theorem dX7_added_66 : decode cX7_added 66 = .ok (.iload_n 1, 1) := by decide +kernel
theorem dX7_added_67 : decode cX7_added 67 = .ok (.ireturn, 1) := by decide +kernel
theorem dX7_allRiders_0 : decode cX7_allRiders 0 = .ok (.iconst 1, 1) := by decide +kernel
theorem dX7_allRiders_1 : decode cX7_allRiders 1 = .ok (.aload_n 0, 1) := by decide +kernel
theorem dX7_allRiders_2 : decode cX7_allRiders 2 = .ok (.getfield 88, 3) := by decide +kernel
theorem dX7_allRiders_5 : decode cX7_allRiders 5 = .ok (.ishl, 1) := by decide +kernel
theorem dX7_allRiders_6 : decode cX7_allRiders 6 = .ok (.iconst 1, 1) := by decide +kernel
theorem dX7_allRiders_7 : decode cX7_allRiders 7 = .ok (.isub, 1) := by decide +kernel
theorem dX7_allRiders_8 : decode cX7_allRiders 8 = .ok (.ireturn, 1) := by decide +kernel
theorem dX7_areTwo_0 : decode cX7_areTwo 0 = .ok (.iconst 0, 1) := by decide +kernel
theorem dX7_areTwo_1 : decode cX7_areTwo 1 = .ok (.istore_n 2, 1) := by decide +kernel
theorem dX7_areTwo_2 : decode cX7_areTwo 2 = .ok (.iload_n 2, 1) := by decide +kernel
theorem dX7_areTwo_3 : decode cX7_areTwo 3 = .ok (.iload_n 1, 1) := by decide +kernel
theorem dX7_areTwo_4 : decode cX7_areTwo 4 = .ok (.if_icmp .ge 69, 3) := by decide +kernel
theorem dX7_areTwo_7 : decode cX7_areTwo 7 = .ok (.iconst 0, 1) := by decide +kernel
theorem dX7_areTwo_8 : decode cX7_areTwo 8 = .ok (.istore_n 3, 1) := by decide +kernel
theorem dX7_areTwo_9 : decode cX7_areTwo 9 = .ok (.iload_n 3, 1) := by decide +kernel
theorem dX7_areTwo_10 : decode cX7_areTwo 10 = .ok (.iload_n 2, 1) := by decide +kernel
theorem dX7_areTwo_11 : decode cX7_areTwo 11 = .ok (.if_icmp .ge 56, 3) := by decide +kernel
theorem dX7_areTwo_14 : decode cX7_areTwo 14 = .ok (.aload_n 0, 1) := by decide +kernel
theorem dX7_areTwo_15 : decode cX7_areTwo 15 = .ok (.getfield 41, 3) := by decide +kernel
theorem dX7_areTwo_18 : decode cX7_areTwo 18 = .ok (.iload_n 2, 1) := by decide +kernel
theorem dX7_areTwo_19 : decode cX7_areTwo 19 = .ok (.iaload, 1) := by decide +kernel
theorem dX7_areTwo_20 : decode cX7_areTwo 20 = .ok (.aload_n 0, 1) := by decide +kernel
theorem dX7_areTwo_21 : decode cX7_areTwo 21 = .ok (.getfield 41, 3) := by decide +kernel
theorem dX7_areTwo_24 : decode cX7_areTwo 24 = .ok (.iload_n 3, 1) := by decide +kernel
theorem dX7_areTwo_25 : decode cX7_areTwo 25 = .ok (.iaload, 1) := by decide +kernel
theorem dX7_areTwo_26 : decode cX7_areTwo 26 = .ok (.if_icmp .ne 35, 3) := by decide +kernel
theorem dX7_areTwo_29 : decode cX7_areTwo 29 = .ok (.aload_n 0, 1) := by decide +kernel
theorem dX7_areTwo_30 : decode cX7_areTwo 30 = .ok (.getfield 35, 3) := by decide +kernel
theorem dX7_areTwo_33 : decode cX7_areTwo 33 = .ok (.iload_n 2, 1) := by decide +kernel
theorem dX7_areTwo_34 : decode cX7_areTwo 34 = .ok (.iaload, 1) := by decide +kernel
theorem dX7_areTwo_35 : decode cX7_areTwo 35 = .ok (.aload_n 0, 1) := by decide +kernel
theorem dX7_areTwo_36 : decode cX7_areTwo 36 = .ok (.getfield 38, 3) := by decide +kernel
theorem dX7_areTwo_39 : decode cX7_areTwo 39 = .ok (.iload_n 3, 1) := by decide +kernel
theorem dX7_areTwo_40 : decode cX7_areTwo 40 = .ok (.iaload, 1) := by decide +kernel
theorem dX7_areTwo_41 : decode cX7_areTwo 41 = .ok (.if_icmp .ge 20, 3) := by decide +kernel
theorem dX7_areTwo_44 : decode cX7_areTwo 44 = .ok (.aload_n 0, 1) := by decide +kernel
theorem dX7_areTwo_45 : decode cX7_areTwo 45 = .ok (.getfield 35, 3) := by decide +kernel
theorem dX7_areTwo_48 : decode cX7_areTwo 48 = .ok (.iload_n 3, 1) := by decide +kernel
theorem dX7_areTwo_49 : decode cX7_areTwo 49 = .ok (.iaload, 1) := by decide +kernel
theorem dX7_areTwo_50 : decode cX7_areTwo 50 = .ok (.aload_n 0, 1) := by decide +kernel
theorem dX7_areTwo_51 : decode cX7_areTwo 51 = .ok (.getfield 38, 3) := by decide +kernel
theorem dX7_areTwo_54 : decode cX7_areTwo 54 = .ok (.iload_n 2, 1) := by decide +kernel
theorem dX7_areTwo_55 : decode cX7_areTwo 55 = .ok (.iaload, 1) := by decide +kernel
theorem dX7_areTwo_56 : decode cX7_areTwo 56 = .ok (.if_icmp .ge 5, 3) := by decide +kernel
theorem dX7_areTwo_59 : decode cX7_areTwo 59 = .ok (.iconst 1, 1) := by decide +kernel
theorem dX7_areTwo_60 : decode cX7_areTwo 60 = .ok (.ireturn, 1) := by decide +kernel
theorem dX7_areTwo_61 : decode cX7_areTwo 61 = .ok (.iinc 3 1, 3) := by decide +kernel
theorem dX7_areTwo_64 : decode cX7_areTwo 64 = .ok (.goto (-55), 3) := by decide +kernel
theorem dX7_areTwo_67 : decode cX7_areTwo 67 = .ok (.iinc 2 1, 3) := by decide +kernel
theorem dX7_areTwo_70 : decode cX7_areTwo 70 = .ok (.goto (-68), 3) := by decide +kernel
theorem dX7_areTwo_73 : decode cX7_areTwo 73 = .ok (.iconst 0, 1) := by decide +kernel
theorem dX7_areTwo_74 : decode cX7_areTwo 74 = .ok (.ireturn, 1) := by decide +kernel
theorem dX7_atom_0 : decode cX7_atom 0 = .ok (.iconst 0, 1) := by decide +kernel
theorem dX7_atom_1 : decode cX7_atom 1 = .ok (.istore_n 1, 1) := by decide +kernel
theorem dX7_atom_2 : decode cX7_atom 2 = .ok (.aload_n 0, 1) := by decide +kernel
theorem dX7_atom_3 : decode cX7_atom 3 = .ok (.bipush 45, 2) := by decide +kernel
theorem dX7_atom_5 : decode cX7_atom 5 = .ok (.invokevirtual 207, 3) := by decide +kernel
theorem dX7_atom_8 : decode cX7_atom 8 = .ok (.ifCond .eq 29, 3) := by decide +kernel
theorem dX7_atom_11 : decode cX7_atom 11 = .ok (.aload_n 0, 1) := by decide +kernel
theorem dX7_atom_12 : decode cX7_atom 12 = .ok (.invokevirtual 210, 3) := by decide +kernel
theorem dX7_atom_15 : decode cX7_atom 15 = .ok (.ifCond .eq 146, 3) := by decide +kernel
theorem dX7_atom_18 : decode cX7_atom 18 = .ok (.aload_n 0, 1) := by decide +kernel
theorem dX7_atom_19 : decode cX7_atom 19 = .ok (.invokevirtual 214, 3) := by decide +kernel
theorem dX7_atom_22 : decode cX7_atom 22 = .ok (.ineg, 1) := by decide +kernel
theorem dX7_atom_23 : decode cX7_atom 23 = .ok (.istore_n 1, 1) := by decide +kernel
theorem dX7_atom_24 : decode cX7_atom 24 = .ok (.aload_n 0, 1) := by decide +kernel
theorem dX7_atom_25 : decode cX7_atom 25 = .ok (.dup, 1) := by decide +kernel
theorem dX7_atom_26 : decode cX7_atom 26 = .ok (.getfield 176, 3) := by decide +kernel
theorem dX7_atom_29 : decode cX7_atom 29 = .ok (.iconst 1, 1) := by decide +kernel
theorem dX7_atom_30 : decode cX7_atom 30 = .ok (.isub, 1) := by decide +kernel
theorem dX7_atom_31 : decode cX7_atom 31 = .ok (.putfield 176, 3) := by decide +kernel
theorem dX7_atom_34 : decode cX7_atom 34 = .ok (.goto 127, 3) := by decide +kernel
theorem dX7_atom_37 : decode cX7_atom 37 = .ok (.aload_n 0, 1) := by decide +kernel
theorem dX7_atom_38 : decode cX7_atom 38 = .ok (.bipush 40, 2) := by decide +kernel
theorem dX7_atom_40 : decode cX7_atom 40 = .ok (.invokevirtual 207, 3) := by decide +kernel
theorem dX7_atom_43 : decode cX7_atom 43 = .ok (.ifCond .eq 52, 3) := by decide +kernel
theorem dX7_atom_46 : decode cX7_atom 46 = .ok (.aload_n 0, 1) := by decide +kernel
theorem dX7_atom_47 : decode cX7_atom 47 = .ok (.invokevirtual 210, 3) := by decide +kernel
theorem dX7_atom_50 : decode cX7_atom 50 = .ok (.ifCond .eq 111, 3) := by decide +kernel
theorem dX7_atom_53 : decode cX7_atom 53 = .ok (.aload_n 0, 1) := by decide +kernel
theorem dX7_atom_54 : decode cX7_atom 54 = .ok (.invokevirtual 218, 3) := by decide +kernel
theorem dX7_atom_57 : decode cX7_atom 57 = .ok (.istore_n 1, 1) := by decide +kernel
theorem dX7_atom_58 : decode cX7_atom 58 = .ok (.aload_n 0, 1) := by decide +kernel
theorem dX7_atom_59 : decode cX7_atom 59 = .ok (.bipush 41, 2) := by decide +kernel
theorem dX7_atom_61 : decode cX7_atom 61 = .ok (.invokevirtual 207, 3) := by decide +kernel
theorem dX7_atom_64 : decode cX7_atom 64 = .ok (.ifCond .ne 7, 3) := by decide +kernel
theorem dX7_atom_67 : decode cX7_atom 67 = .ok (.aload_n 0, 1) := by decide +kernel
theorem dX7_atom_68 : decode cX7_atom 68 = .ok (.invokevirtual 179, 3) := by decide +kernel
theorem dX7_atom_71 : decode cX7_atom 71 = .ok (.aload_n 0, 1) := by decide +kernel
theorem dX7_atom_72 : decode cX7_atom 72 = .ok (.dup, 1) := by decide +kernel
theorem dX7_atom_73 : decode cX7_atom 73 = .ok (.getfield 176, 3) := by decide +kernel
theorem dX7_atom_76 : decode cX7_atom 76 = .ok (.iconst 1, 1) := by decide +kernel
theorem dX7_atom_77 : decode cX7_atom 77 = .ok (.isub, 1) := by decide +kernel
theorem dX7_atom_78 : decode cX7_atom 78 = .ok (.putfield 176, 3) := by decide +kernel
theorem dX7_atom_81 : decode cX7_atom 81 = .ok (.aload_n 0, 1) := by decide +kernel
theorem dX7_atom_82 : decode cX7_atom 82 = .ok (.getfield 166, 3) := by decide +kernel
theorem dX7_atom_85 : decode cX7_atom 85 = .ok (.ifCond .ne 76, 3) := by decide +kernel
theorem dX7_atom_88 : decode cX7_atom 88 = .ok (.aload_n 0, 1) := by decide +kernel
theorem dX7_atom_89 : decode cX7_atom 89 = .ok (.invokevirtual 182, 3) := by decide +kernel
theorem dX7_atom_92 : decode cX7_atom 92 = .ok (.goto 69, 3) := by decide +kernel
theorem dX7_atom_95 : decode cX7_atom 95 = .ok (.aload_n 0, 1) := by decide +kernel
theorem dX7_atom_96 : decode cX7_atom 96 = .ok (.getfield 166, 3) := by decide +kernel
theorem dX7_atom_99 : decode cX7_atom 99 = .ok (.ifCond .ne 24, 3) := by decide +kernel
theorem dX7_atom_102 : decode cX7_atom 102 = .ok (.aload_n 0, 1) := by decide +kernel
theorem dX7_atom_103 : decode cX7_atom 103 = .ok (.getfield 149, 3) := by decide +kernel
theorem dX7_atom_106 : decode cX7_atom 106 = .ok (.iconst 2, 1) := by decide +kernel
theorem dX7_atom_107 : decode cX7_atom 107 = .ok (.if_icmp .ne 16, 3) := by decide +kernel
theorem dX7_atom_110 : decode cX7_atom 110 = .ok (.aload_n 0, 1) := by decide +kernel
theorem dX7_atom_111 : decode cX7_atom 111 = .ok (.getfield 160, 3) := by decide +kernel
theorem dX7_atom_114 : decode cX7_atom 114 = .ok (.l2i, 1) := by decide +kernel
theorem dX7_atom_115 : decode cX7_atom 115 = .ok (.istore_n 1, 1) := by decide +kernel
theorem dX7_atom_116 : decode cX7_atom 116 = .ok (.aload_n 0, 1) := by decide +kernel
theorem dX7_atom_117 : decode cX7_atom 117 = .ok (.invokevirtual 182, 3) := by decide +kernel
theorem dX7_atom_120 : decode cX7_atom 120 = .ok (.goto 41, 3) := by decide +kernel
theorem dX7_atom_123 : decode cX7_atom 123 = .ok (.aload_n 0, 1) := by decide +kernel
theorem dX7_atom_124 : decode cX7_atom 124 = .ok (.getfield 166, 3) := by decide +kernel
theorem dX7_atom_127 : decode cX7_atom 127 = .ok (.ifCond .ne 30, 3) := by decide +kernel
theorem dX7_atom_130 : decode cX7_atom 130 = .ok (.aload_n 0, 1) := by decide +kernel
theorem dX7_atom_131 : decode cX7_atom 131 = .ok (.getfield 149, 3) := by decide +kernel
theorem dX7_atom_134 : decode cX7_atom 134 = .ok (.iconst 1, 1) := by decide +kernel
theorem dX7_atom_135 : decode cX7_atom 135 = .ok (.if_icmp .ne 22, 3) := by decide +kernel
theorem dX7_atom_138 : decode cX7_atom 138 = .ok (.aload_n 0, 1) := by decide +kernel
theorem dX7_atom_139 : decode cX7_atom 139 = .ok (.invokevirtual 221, 3) := by decide +kernel
theorem dX7_atom_142 : decode cX7_atom 142 = .ok (.istore_n 1, 1) := by decide +kernel
theorem dX7_atom_143 : decode cX7_atom 143 = .ok (.aload_n 0, 1) := by decide +kernel
theorem dX7_atom_144 : decode cX7_atom 144 = .ok (.getfield 166, 3) := by decide +kernel
theorem dX7_atom_147 : decode cX7_atom 147 = .ok (.ifCond .ne 14, 3) := by decide +kernel
theorem dX7_atom_150 : decode cX7_atom 150 = .ok (.aload_n 0, 1) := by decide +kernel
theorem dX7_atom_151 : decode cX7_atom 151 = .ok (.invokevirtual 182, 3) := by decide +kernel
theorem dX7_atom_154 : decode cX7_atom 154 = .ok (.goto 7, 3) := by decide +kernel
theorem dX7_atom_157 : decode cX7_atom 157 = .ok (.aload_n 0, 1) := by decide +kernel
theorem dX7_atom_158 : decode cX7_atom 158 = .ok (.invokevirtual 179, 3) := by decide +kernel
theorem dX7_atom_161 : decode cX7_atom 161 = .ok (.iload_n 1, 1) := by decide +kernel
theorem dX7_atom_162 : decode cX7_atom 162 = .ok (.ireturn, 1) := by decide +kernel
theorem dX7_back_0 : decode cX7_back 0 = .ok (.aload_n 0, 1) := by decide +kernel
theorem dX7_back_1 : decode cX7_back 1 = .ok (.getfield 65, 3) := by decide +kernel
theorem dX7_back_4 : decode cX7_back 4 = .ok (.iconst (-1), 1) := by decide +kernel
theorem dX7_back_5 : decode cX7_back 5 = .ok (.if_icmp .ne 6, 3) := by decide +kernel
theorem dX7_back_8 : decode cX7_back 8 = .ok (.bipush (-3), 2) := by decide +kernel
theorem dX7_back_10 : decode cX7_back 10 = .ok (.ireturn, 1) := by decide +kernel
theorem dX7_back_11 : decode cX7_back 11 = .ok (.iconst 0, 1) := by decide +kernel
theorem dX7_back_12 : decode cX7_back 12 = .ok (.istore_n 1, 1) := by decide +kernel
theorem dX7_back_13 : decode cX7_back 13 = .ok (.iload_n 1, 1) := by decide +kernel
theorem dX7_back_14 : decode cX7_back 14 = .ok (.iconst 5, 1) := by decide +kernel
theorem dX7_back_15 : decode cX7_back 15 = .ok (.if_icmp .ge 80, 3) := by decide +kernel
theorem dX7_back_18 : decode cX7_back 18 = .ok (.aload_n 0, 1) := by decide +kernel
theorem dX7_back_19 : decode cX7_back 19 = .ok (.getfield 29, 3) := by decide +kernel
theorem dX7_back_22 : decode cX7_back 22 = .ok (.iload_n 1, 1) := by decide +kernel
theorem dX7_back_23 : decode cX7_back 23 = .ok (.aload_n 0, 1) := by decide +kernel
theorem dX7_back_24 : decode cX7_back 24 = .ok (.getfield 62, 3) := by decide +kernel
theorem dX7_back_27 : decode cX7_back 27 = .ok (.iload_n 1, 1) := by decide +kernel
theorem dX7_back_28 : decode cX7_back 28 = .ok (.iaload, 1) := by decide +kernel
theorem dX7_back_29 : decode cX7_back 29 = .ok (.iastore, 1) := by decide +kernel
theorem dX7_back_30 : decode cX7_back 30 = .ok (.aload_n 0, 1) := by decide +kernel
theorem dX7_back_31 : decode cX7_back 31 = .ok (.getfield 32, 3) := by decide +kernel
theorem dX7_back_34 : decode cX7_back 34 = .ok (.iload_n 1, 1) := by decide +kernel
theorem dX7_back_35 : decode cX7_back 35 = .ok (.aload_n 0, 1) := by decide +kernel
theorem dX7_back_36 : decode cX7_back 36 = .ok (.getfield 62, 3) := by decide +kernel
theorem dX7_back_39 : decode cX7_back 39 = .ok (.iconst 5, 1) := by decide +kernel
theorem dX7_back_40 : decode cX7_back 40 = .ok (.iload_n 1, 1) := by decide +kernel
theorem dX7_back_41 : decode cX7_back 41 = .ok (.iadd, 1) := by decide +kernel
theorem dX7_back_42 : decode cX7_back 42 = .ok (.iaload, 1) := by decide +kernel
theorem dX7_back_43 : decode cX7_back 43 = .ok (.iastore, 1) := by decide +kernel
theorem dX7_back_44 : decode cX7_back 44 = .ok (.aload_n 0, 1) := by decide +kernel
theorem dX7_back_45 : decode cX7_back 45 = .ok (.getfield 38, 3) := by decide +kernel
theorem dX7_back_48 : decode cX7_back 48 = .ok (.iload_n 1, 1) := by decide +kernel
theorem dX7_back_49 : decode cX7_back 49 = .ok (.aload_n 0, 1) := by decide +kernel
theorem dX7_back_50 : decode cX7_back 50 = .ok (.getfield 62, 3) := by decide +kernel
theorem dX7_back_53 : decode cX7_back 53 = .ok (.bipush 10, 2) := by decide +kernel
theorem dX7_back_55 : decode cX7_back 55 = .ok (.iload_n 1, 1) := by decide +kernel
theorem dX7_back_56 : decode cX7_back 56 = .ok (.iadd, 1) := by decide +kernel
theorem dX7_back_57 : decode cX7_back 57 = .ok (.iaload, 1) := by decide +kernel
theorem dX7_back_58 : decode cX7_back 58 = .ok (.iastore, 1) := by decide +kernel
theorem dX7_back_59 : decode cX7_back 59 = .ok (.aload_n 0, 1) := by decide +kernel
theorem dX7_back_60 : decode cX7_back 60 = .ok (.getfield 41, 3) := by decide +kernel
theorem dX7_back_63 : decode cX7_back 63 = .ok (.iload_n 1, 1) := by decide +kernel
theorem dX7_back_64 : decode cX7_back 64 = .ok (.aload_n 0, 1) := by decide +kernel
theorem dX7_back_65 : decode cX7_back 65 = .ok (.getfield 62, 3) := by decide +kernel
theorem dX7_back_68 : decode cX7_back 68 = .ok (.bipush 15, 2) := by decide +kernel
theorem dX7_back_70 : decode cX7_back 70 = .ok (.iload_n 1, 1) := by decide +kernel
theorem dX7_back_71 : decode cX7_back 71 = .ok (.iadd, 1) := by decide +kernel
theorem dX7_back_72 : decode cX7_back 72 = .ok (.iaload, 1) := by decide +kernel
theorem dX7_back_73 : decode cX7_back 73 = .ok (.iastore, 1) := by decide +kernel
theorem dX7_back_74 : decode cX7_back 74 = .ok (.aload_n 0, 1) := by decide +kernel
theorem dX7_back_75 : decode cX7_back 75 = .ok (.getfield 44, 3) := by decide +kernel
theorem dX7_back_78 : decode cX7_back 78 = .ok (.iload_n 1, 1) := by decide +kernel
theorem dX7_back_79 : decode cX7_back 79 = .ok (.aload_n 0, 1) := by decide +kernel
theorem dX7_back_80 : decode cX7_back 80 = .ok (.getfield 62, 3) := by decide +kernel
theorem dX7_back_83 : decode cX7_back 83 = .ok (.bipush 20, 2) := by decide +kernel
theorem dX7_back_85 : decode cX7_back 85 = .ok (.iload_n 1, 1) := by decide +kernel
theorem dX7_back_86 : decode cX7_back 86 = .ok (.iadd, 1) := by decide +kernel
theorem dX7_back_87 : decode cX7_back 87 = .ok (.iaload, 1) := by decide +kernel
theorem dX7_back_88 : decode cX7_back 88 = .ok (.iastore, 1) := by decide +kernel
theorem dX7_back_89 : decode cX7_back 89 = .ok (.iinc 1 1, 3) := by decide +kernel
theorem dX7_back_92 : decode cX7_back 92 = .ok (.goto (-79), 3) := by decide +kernel
theorem dX7_back_95 : decode cX7_back 95 = .ok (.aload_n 0, 1) := by decide +kernel
theorem dX7_back_96 : decode cX7_back 96 = .ok (.aload_n 0, 1) := by decide +kernel
theorem dX7_back_97 : decode cX7_back 97 = .ok (.getfield 65, 3) := by decide +kernel
theorem dX7_back_100 : decode cX7_back 100 = .ok (.putfield 88, 3) := by decide +kernel
theorem dX7_back_103 : decode cX7_back 103 = .ok (.aload_n 0, 1) := by decide +kernel
theorem dX7_back_104 : decode cX7_back 104 = .ok (.aload_n 0, 1) := by decide +kernel
theorem dX7_back_105 : decode cX7_back 105 = .ok (.getfield 350, 3) := by decide +kernel
theorem dX7_back_108 : decode cX7_back 108 = .ok (.putfield 23, 3) := by decide +kernel
theorem dX7_back_111 : decode cX7_back 111 = .ok (.aload_n 0, 1) := by decide +kernel
theorem dX7_back_112 : decode cX7_back 112 = .ok (.aload_n 0, 1) := by decide +kernel
theorem dX7_back_113 : decode cX7_back 113 = .ok (.getfield 353, 3) := by decide +kernel
theorem dX7_back_116 : decode cX7_back 116 = .ok (.putfield 247, 3) := by decide +kernel
theorem dX7_back_119 : decode cX7_back 119 = .ok (.aload_n 0, 1) := by decide +kernel
theorem dX7_back_120 : decode cX7_back 120 = .ok (.getfield 88, 3) := by decide +kernel
theorem dX7_back_123 : decode cX7_back 123 = .ok (.ireturn, 1) := by decide +kernel
theorem dX7_barring_0 : decode cX7_barring 0 = .ok (.iconst 0, 1) := by decide +kernel
theorem dX7_barring_1 : decode cX7_barring 1 = .ok (.istore 4, 2) := by decide +kernel
theorem dX7_barring_3 : decode cX7_barring 3 = .ok (.iconst 0, 1) := by decide +kernel
theorem dX7_barring_4 : decode cX7_barring 4 = .ok (.istore 5, 2) := by decide +kernel
theorem dX7_barring_6 : decode cX7_barring 6 = .ok (.iload 5, 2) := by decide +kernel
theorem dX7_barring_8 : decode cX7_barring 8 = .ok (.aload_n 0, 1) := by decide +kernel
theorem dX7_barring_9 : decode cX7_barring 9 = .ok (.getfield 88, 3) := by decide +kernel
theorem dX7_barring_12 : decode cX7_barring 12 = .ok (.if_icmp .ge 97, 3) := by decide +kernel
theorem dX7_barring_15 : decode cX7_barring 15 = .ok (.iload_n 2, 1) := by decide +kernel
theorem dX7_barring_16 : decode cX7_barring 16 = .ok (.iload 5, 2) := by decide +kernel
theorem dX7_barring_18 : decode cX7_barring 18 = .ok (.ishr, 1) := by decide +kernel
theorem dX7_barring_19 : decode cX7_barring 19 = .ok (.iconst 1, 1) := by decide +kernel
theorem dX7_barring_20 : decode cX7_barring 20 = .ok (.iand, 1) := by decide +kernel
theorem dX7_barring_21 : decode cX7_barring 21 = .ok (.iconst 1, 1) := by decide +kernel
theorem dX7_barring_22 : decode cX7_barring 22 = .ok (.if_icmp .ne 60, 3) := by decide +kernel
theorem dX7_barring_25 : decode cX7_barring 25 = .ok (.aload_n 0, 1) := by decide +kernel
theorem dX7_barring_26 : decode cX7_barring 26 = .ok (.getfield 41, 3) := by decide +kernel
theorem dX7_barring_29 : decode cX7_barring 29 = .ok (.iload 5, 2) := by decide +kernel
theorem dX7_barring_31 : decode cX7_barring 31 = .ok (.iaload, 1) := by decide +kernel
theorem dX7_barring_32 : decode cX7_barring 32 = .ok (.iconst 2, 1) := by decide +kernel
theorem dX7_barring_33 : decode cX7_barring 33 = .ok (.irem, 1) := by decide +kernel
theorem dX7_barring_34 : decode cX7_barring 34 = .ok (.aload_n 0, 1) := by decide +kernel
theorem dX7_barring_35 : decode cX7_barring 35 = .ok (.getfield 41, 3) := by decide +kernel
theorem dX7_barring_38 : decode cX7_barring 38 = .ok (.iload_n 1, 1) := by decide +kernel
theorem dX7_barring_39 : decode cX7_barring 39 = .ok (.iaload, 1) := by decide +kernel
theorem dX7_barring_40 : decode cX7_barring 40 = .ok (.iconst 2, 1) := by decide +kernel
theorem dX7_barring_41 : decode cX7_barring 41 = .ok (.irem, 1) := by decide +kernel
theorem dX7_barring_42 : decode cX7_barring 42 = .ok (.if_icmp .ne 40, 3) := by decide +kernel
theorem dX7_barring_45 : decode cX7_barring 45 = .ok (.iload_n 3, 1) := by decide +kernel
theorem dX7_barring_46 : decode cX7_barring 46 = .ok (.aload_n 0, 1) := by decide +kernel
theorem dX7_barring_47 : decode cX7_barring 47 = .ok (.getfield 41, 3) := by decide +kernel
theorem dX7_barring_50 : decode cX7_barring 50 = .ok (.iload 5, 2) := by decide +kernel
theorem dX7_barring_52 : decode cX7_barring 52 = .ok (.iaload, 1) := by decide +kernel
theorem dX7_barring_53 : decode cX7_barring 53 = .ok (.iconst 2, 1) := by decide +kernel
theorem dX7_barring_54 : decode cX7_barring 54 = .ok (.idiv, 1) := by decide +kernel
theorem dX7_barring_55 : decode cX7_barring 55 = .ok (.aload_n 0, 1) := by decide +kernel
theorem dX7_barring_56 : decode cX7_barring 56 = .ok (.getfield 41, 3) := by decide +kernel
theorem dX7_barring_59 : decode cX7_barring 59 = .ok (.iload_n 1, 1) := by decide +kernel
theorem dX7_barring_60 : decode cX7_barring 60 = .ok (.iaload, 1) := by decide +kernel
theorem dX7_barring_61 : decode cX7_barring 61 = .ok (.iconst 2, 1) := by decide +kernel
theorem dX7_barring_62 : decode cX7_barring 62 = .ok (.idiv, 1) := by decide +kernel
theorem dX7_barring_63 : decode cX7_barring 63 = .ok (.isub, 1) := by decide +kernel
theorem dX7_barring_64 : decode cX7_barring 64 = .ok (.imul, 1) := by decide +kernel
theorem dX7_barring_65 : decode cX7_barring 65 = .ok (.ifCond .le 17, 3) := by decide +kernel
theorem dX7_barring_68 : decode cX7_barring 68 = .ok (.aload_n 0, 1) := by decide +kernel
theorem dX7_barring_69 : decode cX7_barring 69 = .ok (.iload 5, 2) := by decide +kernel
theorem dX7_barring_71 : decode cX7_barring 71 = .ok (.iload_n 1, 1) := by decide +kernel
theorem dX7_barring_72 : decode cX7_barring 72 = .ok (.invokevirtual 124, 3) := by decide +kernel
theorem dX7_barring_75 : decode cX7_barring 75 = .ok (.ifCond .ne 7, 3) := by decide +kernel
theorem dX7_barring_78 : decode cX7_barring 78 = .ok (.iconst 1, 1) := by decide +kernel
theorem dX7_barring_79 : decode cX7_barring 79 = .ok (.goto 4, 3) := by decide +kernel
theorem dX7_barring_82 : decode cX7_barring 82 = .ok (.iconst 0, 1) := by decide +kernel
theorem dX7_barring_83 : decode cX7_barring 83 = .ok (.istore 6, 2) := by decide +kernel
theorem dX7_barring_85 : decode cX7_barring 85 = .ok (.iload 4, 2) := by decide +kernel
theorem dX7_barring_87 : decode cX7_barring 87 = .ok (.iload 6, 2) := by decide +kernel
theorem dX7_barring_89 : decode cX7_barring 89 = .ok (.ifCond .eq 7, 3) := by decide +kernel
theorem dX7_barring_92 : decode cX7_barring 92 = .ok (.iconst 1, 1) := by decide +kernel
theorem dX7_barring_93 : decode cX7_barring 93 = .ok (.goto 4, 3) := by decide +kernel
theorem dX7_barring_96 : decode cX7_barring 96 = .ok (.iconst 0, 1) := by decide +kernel
theorem dX7_barring_97 : decode cX7_barring 97 = .ok (.iload 5, 2) := by decide +kernel
theorem dX7_barring_99 : decode cX7_barring 99 = .ok (.ishl, 1) := by decide +kernel
theorem dX7_barring_100 : decode cX7_barring 100 = .ok (.ior, 1) := by decide +kernel
theorem dX7_barring_101 : decode cX7_barring 101 = .ok (.istore 4, 2) := by decide +kernel
theorem dX7_barring_103 : decode cX7_barring 103 = .ok (.iinc 5 1, 3) := by decide +kernel
theorem dX7_barring_106 : decode cX7_barring 106 = .ok (.goto (-100), 3) := by decide +kernel
theorem dX7_barring_109 : decode cX7_barring 109 = .ok (.iload 4, 2) := by decide +kernel
theorem dX7_barring_111 : decode cX7_barring 111 = .ok (.ireturn, 1) := by decide +kernel
theorem dX7_bitsOf_0 : decode cX7_bitsOf 0 = .ok (.iconst 0, 1) := by decide +kernel
theorem dX7_bitsOf_1 : decode cX7_bitsOf 1 = .ok (.istore_n 1, 1) := by decide +kernel
theorem dX7_bitsOf_2 : decode cX7_bitsOf 2 = .ok (.iload_n 0, 1) := by decide +kernel
theorem dX7_bitsOf_3 : decode cX7_bitsOf 3 = .ok (.istore_n 2, 1) := by decide +kernel
theorem dX7_bitsOf_4 : decode cX7_bitsOf 4 = .ok (.iload_n 2, 1) := by decide +kernel
theorem dX7_bitsOf_5 : decode cX7_bitsOf 5 = .ok (.ifCond .eq 15, 3) := by decide +kernel
theorem dX7_bitsOf_8 : decode cX7_bitsOf 8 = .ok (.iinc 1 1, 3) := by decide +kernel
theorem dX7_bitsOf_11 : decode cX7_bitsOf 11 = .ok (.iload_n 2, 1) := by decide +kernel
theorem dX7_bitsOf_12 : decode cX7_bitsOf 12 = .ok (.iload_n 2, 1) := by decide +kernel
theorem dX7_bitsOf_13 : decode cX7_bitsOf 13 = .ok (.iconst 1, 1) := by decide +kernel
theorem dX7_bitsOf_14 : decode cX7_bitsOf 14 = .ok (.isub, 1) := by decide +kernel
theorem dX7_bitsOf_15 : decode cX7_bitsOf 15 = .ok (.iand, 1) := by decide +kernel
theorem dX7_bitsOf_16 : decode cX7_bitsOf 16 = .ok (.istore_n 2, 1) := by decide +kernel
theorem dX7_bitsOf_17 : decode cX7_bitsOf 17 = .ok (.goto (-13), 3) := by decide +kernel
theorem dX7_bitsOf_20 : decode cX7_bitsOf 20 = .ok (.iload_n 1, 1) := by decide +kernel
theorem dX7_bitsOf_21 : decode cX7_bitsOf 21 = .ok (.ireturn, 1) := by decide +kernel
theorem dX7_both_0 : decode cX7_both 0 = .ok (.aload_n 0, 1) := by decide +kernel
theorem dX7_both_1 : decode cX7_both 1 = .ok (.invokevirtual 229, 3) := by decide +kernel
theorem dX7_both_4 : decode cX7_both 4 = .ok (.istore_n 1, 1) := by decide +kernel
theorem dX7_both_5 : decode cX7_both 5 = .ok (.aload_n 0, 1) := by decide +kernel
theorem dX7_both_6 : decode cX7_both 6 = .ok (.bipush 97, 2) := by decide +kernel
theorem dX7_both_8 : decode cX7_both 8 = .ok (.bipush 110, 2) := by decide +kernel
theorem dX7_both_10 : decode cX7_both 10 = .ok (.bipush 100, 2) := by decide +kernel
theorem dX7_both_12 : decode cX7_both 12 = .ok (.iconst 0, 1) := by decide +kernel
theorem dX7_both_13 : decode cX7_both 13 = .ok (.iconst 0, 1) := by decide +kernel
theorem dX7_both_14 : decode cX7_both 14 = .ok (.iconst 0, 1) := by decide +kernel
theorem dX7_both_15 : decode cX7_both 15 = .ok (.iconst 0, 1) := by decide +kernel
theorem dX7_both_16 : decode cX7_both 16 = .ok (.iconst 0, 1) := by decide +kernel
theorem dX7_both_17 : decode cX7_both 17 = .ok (.invokevirtual 185, 3) := by decide +kernel
theorem dX7_both_20 : decode cX7_both 20 = .ok (.ifCond .eq 29, 3) := by decide +kernel
theorem dX7_both_23 : decode cX7_both 23 = .ok (.aload_n 0, 1) := by decide +kernel
theorem dX7_both_24 : decode cX7_both 24 = .ok (.invokevirtual 182, 3) := by decide +kernel
theorem dX7_both_27 : decode cX7_both 27 = .ok (.aload_n 0, 1) := by decide +kernel
theorem dX7_both_28 : decode cX7_both 28 = .ok (.invokevirtual 229, 3) := by decide +kernel
theorem dX7_both_31 : decode cX7_both 31 = .ok (.istore_n 2, 1) := by decide +kernel
theorem dX7_both_32 : decode cX7_both 32 = .ok (.iload_n 1, 1) := by decide +kernel
theorem dX7_both_33 : decode cX7_both 33 = .ok (.ifCond .eq 11, 3) := by decide +kernel
theorem dX7_both_36 : decode cX7_both 36 = .ok (.iload_n 2, 1) := by decide +kernel
theorem dX7_both_37 : decode cX7_both 37 = .ok (.ifCond .eq 7, 3) := by decide +kernel
theorem dX7_both_40 : decode cX7_both 40 = .ok (.iconst 1, 1) := by decide +kernel
theorem dX7_both_41 : decode cX7_both 41 = .ok (.goto 4, 3) := by decide +kernel
theorem dX7_both_44 : decode cX7_both 44 = .ok (.iconst 0, 1) := by decide +kernel
theorem dX7_both_45 : decode cX7_both 45 = .ok (.istore_n 1, 1) := by decide +kernel
theorem dX7_both_46 : decode cX7_both 46 = .ok (.goto (-41), 3) := by decide +kernel
theorem dX7_both_49 : decode cX7_both 49 = .ok (.iload_n 1, 1) := by decide +kernel
theorem dX7_both_50 : decode cX7_both 50 = .ok (.ireturn, 1) := by decide +kernel
theorem dX7_byteAt_0 : decode cX7_byteAt 0 = .ok (.iload_n 1, 1) := by decide +kernel
theorem dX7_byteAt_1 : decode cX7_byteAt 1 = .ok (.aload_n 0, 1) := by decide +kernel
theorem dX7_byteAt_2 : decode cX7_byteAt 2 = .ok (.getfield 133, 3) := by decide +kernel
theorem dX7_byteAt_5 : decode cX7_byteAt 5 = .ok (.if_icmp .ge 17, 3) := by decide +kernel
theorem dX7_byteAt_8 : decode cX7_byteAt 8 = .ok (.aload_n 0, 1) := by decide +kernel
theorem dX7_byteAt_9 : decode cX7_byteAt 9 = .ok (.getfield 13, 3) := by decide +kernel
theorem dX7_byteAt_12 : decode cX7_byteAt 12 = .ok (.aload_n 0, 1) := by decide +kernel
theorem dX7_byteAt_13 : decode cX7_byteAt 13 = .ok (.getfield 136, 3) := by decide +kernel
theorem dX7_byteAt_16 : decode cX7_byteAt 16 = .ok (.iload_n 1, 1) := by decide +kernel
theorem dX7_byteAt_17 : decode cX7_byteAt 17 = .ok (.iadd, 1) := by decide +kernel
theorem dX7_byteAt_18 : decode cX7_byteAt 18 = .ok (.iaload, 1) := by decide +kernel
theorem dX7_byteAt_19 : decode cX7_byteAt 19 = .ok (.goto 4, 3) := by decide +kernel
theorem dX7_byteAt_22 : decode cX7_byteAt 22 = .ok (.iconst (-1), 1) := by decide +kernel
theorem dX7_byteAt_23 : decode cX7_byteAt 23 = .ok (.ireturn, 1) := by decide +kernel
theorem dX7_cell_0 : decode cX7_cell 0 = .ok (.iload_n 1, 1) := by decide +kernel
theorem dX7_cell_1 : decode cX7_cell 1 = .ok (.invokestatic 329, 3) := by decide +kernel
theorem dX7_cell_4 : decode cX7_cell 4 = .ok (.ifCond .ne 6, 3) := by decide +kernel
theorem dX7_cell_7 : decode cX7_cell 7 = .ok (.bipush (-2), 2) := by decide +kernel
theorem dX7_cell_9 : decode cX7_cell 9 = .ok (.ireturn, 1) := by decide +kernel
theorem dX7_cell_10 : decode cX7_cell 10 = .ok (.aload_n 0, 1) := by decide +kernel
theorem dX7_cell_11 : decode cX7_cell 11 = .ok (.getfield 68, 3) := by decide +kernel
theorem dX7_cell_14 : decode cX7_cell 14 = .ok (.iload_n 1, 1) := by decide +kernel
theorem dX7_cell_15 : decode cX7_cell 15 = .ok (.baload, 1) := by decide +kernel
theorem dX7_cell_16 : decode cX7_cell 16 = .ok (.ifCond .ne 6, 3) := by decide +kernel
theorem dX7_cell_19 : decode cX7_cell 19 = .ok (.bipush (-11), 2) := by decide +kernel
theorem dX7_cell_21 : decode cX7_cell 21 = .ok (.ireturn, 1) := by decide +kernel
theorem dX7_cell_22 : decode cX7_cell 22 = .ok (.iload_n 2, 1) := by decide +kernel
theorem dX7_cell_23 : decode cX7_cell 23 = .ok (.i2l, 1) := by decide +kernel
theorem dX7_cell_24 : decode cX7_cell 24 = .ok (.lconst 0, 1) := by decide +kernel
theorem dX7_cell_25 : decode cX7_cell 25 = .ok (.aload_n 0, 1) := by decide +kernel
theorem dX7_cell_26 : decode cX7_cell 26 = .ok (.getfield 75, 3) := by decide +kernel
theorem dX7_cell_29 : decode cX7_cell 29 = .ok (.iload_n 1, 1) := by decide +kernel
theorem dX7_cell_30 : decode cX7_cell 30 = .ok (.iaload, 1) := by decide +kernel
theorem dX7_cell_31 : decode cX7_cell 31 = .ok (.iconst 1, 1) := by decide +kernel
theorem dX7_cell_32 : decode cX7_cell 32 = .ok (.isub, 1) := by decide +kernel
theorem dX7_cell_33 : decode cX7_cell 33 = .ok (.i2l, 1) := by decide +kernel
theorem dX7_cell_34 : decode cX7_cell 34 = .ok (.invokestatic 91, 3) := by decide +kernel
theorem dX7_cell_37 : decode cX7_cell 37 = .ok (.ifCond .ne 6, 3) := by decide +kernel
theorem dX7_cell_40 : decode cX7_cell 40 = .ok (.bipush (-12), 2) := by decide +kernel
theorem dX7_cell_42 : decode cX7_cell 42 = .ok (.ireturn, 1) := by decide +kernel
theorem dX7_cell_43 : decode cX7_cell 43 = .ok (.aload_n 0, 1) := by decide +kernel
theorem dX7_cell_44 : decode cX7_cell 44 = .ok (.getfield 78, 3) := by decide +kernel
theorem dX7_cell_47 : decode cX7_cell 47 = .ok (.bipush 40, 2) := by decide +kernel
theorem dX7_cell_49 : decode cX7_cell 49 = .ok (.iload_n 1, 1) := by decide +kernel
theorem dX7_cell_50 : decode cX7_cell 50 = .ok (.imul, 1) := by decide +kernel
theorem dX7_cell_51 : decode cX7_cell 51 = .ok (.iload_n 2, 1) := by decide +kernel
theorem dX7_cell_52 : decode cX7_cell 52 = .ok (.iadd, 1) := by decide +kernel
theorem dX7_cell_53 : decode cX7_cell 53 = .ok (.aload_n 0, 1) := by decide +kernel
theorem dX7_cell_54 : decode cX7_cell 54 = .ok (.getfield 72, 3) := by decide +kernel
theorem dX7_cell_57 : decode cX7_cell 57 = .ok (.iload_n 1, 1) := by decide +kernel
theorem dX7_cell_58 : decode cX7_cell 58 = .ok (.iaload, 1) := by decide +kernel
theorem dX7_cell_59 : decode cX7_cell 59 = .ok (.ifCond .ne 8, 3) := by decide +kernel
theorem dX7_cell_62 : decode cX7_cell 62 = .ok (.iload_n 3, 1) := by decide +kernel
theorem dX7_cell_63 : decode cX7_cell 63 = .ok (.i2b, 1) := by decide +kernel
theorem dX7_cell_64 : decode cX7_cell 64 = .ok (.goto 19, 3) := by decide +kernel
theorem dX7_cell_67 : decode cX7_cell 67 = .ok (.aload_n 0, 1) := by decide +kernel
theorem dX7_cell_68 : decode cX7_cell 68 = .ok (.getfield 72, 3) := by decide +kernel
theorem dX7_cell_71 : decode cX7_cell 71 = .ok (.iload_n 1, 1) := by decide +kernel
theorem dX7_cell_72 : decode cX7_cell 72 = .ok (.iaload, 1) := by decide +kernel
theorem dX7_cell_73 : decode cX7_cell 73 = .ok (.iconst 1, 1) := by decide +kernel
theorem dX7_cell_74 : decode cX7_cell 74 = .ok (.if_icmp .ne 8, 3) := by decide +kernel
theorem dX7_cell_77 : decode cX7_cell 77 = .ok (.iload_n 3, 1) := by decide +kernel
theorem dX7_cell_78 : decode cX7_cell 78 = .ok (.i2s, 1) := by decide +kernel
theorem dX7_cell_79 : decode cX7_cell 79 = .ok (.goto 4, 3) := by decide +kernel
theorem dX7_cell_82 : decode cX7_cell 82 = .ok (.iload_n 3, 1) := by decide +kernel
theorem dX7_cell_83 : decode cX7_cell 83 = .ok (.iastore, 1) := by decide +kernel
theorem dX7_cell_84 : decode cX7_cell 84 = .ok (.iconst 1, 1) := by decide +kernel
theorem dX7_cell_85 : decode cX7_cell 85 = .ok (.ireturn, 1) := by decide +kernel
theorem dX7_chance_0 : decode cX7_chance 0 = .ok (.iload_n 2, 1) := by decide +kernel
theorem dX7_chance_1 : decode cX7_chance 1 = .ok (.i2l, 1) := by decide +kernel
theorem dX7_chance_2 : decode cX7_chance 2 = .ok (.lconst 1, 1) := by decide +kernel
theorem dX7_chance_3 : decode cX7_chance 3 = .ok (.ldc2_w 348, 3) := by decide +kernel
theorem dX7_chance_6 : decode cX7_chance 6 = .ok (.invokestatic 91, 3) := by decide +kernel
theorem dX7_chance_9 : decode cX7_chance 9 = .ok (.ifCond .eq 13, 3) := by decide +kernel
theorem dX7_chance_12 : decode cX7_chance 12 = .ok (.iload_n 3, 1) := by decide +kernel
theorem dX7_chance_13 : decode cX7_chance 13 = .ok (.i2l, 1) := by decide +kernel
theorem dX7_chance_14 : decode cX7_chance 14 = .ok (.lconst 0, 1) := by decide +kernel
theorem dX7_chance_15 : decode cX7_chance 15 = .ok (.lconst 1, 1) := by decide +kernel
theorem dX7_chance_16 : decode cX7_chance 16 = .ok (.invokestatic 91, 3) := by decide +kernel
theorem dX7_chance_19 : decode cX7_chance 19 = .ok (.ifCond .ne 7, 3) := by decide +kernel
theorem dX7_chance_22 : decode cX7_chance 22 = .ok (.ldc2_w 323, 3) := by decide +kernel
theorem dX7_chance_25 : decode cX7_chance 25 = .ok (.lreturn, 1) := by decide +kernel
theorem dX7_chance_26 : decode cX7_chance 26 = .ok (.aload_n 0, 1) := by decide +kernel
theorem dX7_chance_27 : decode cX7_chance 27 = .ok (.aload_n 0, 1) := by decide +kernel
theorem dX7_chance_28 : decode cX7_chance 28 = .ok (.invokevirtual 291, 3) := by decide +kernel
theorem dX7_chance_31 : decode cX7_chance 31 = .ok (.invokevirtual 294, 3) := by decide +kernel
theorem dX7_chance_34 : decode cX7_chance 34 = .ok (.aload_n 0, 1) := by decide +kernel
theorem dX7_chance_35 : decode cX7_chance 35 = .ok (.invokevirtual 298, 3) := by decide +kernel
theorem dX7_chance_38 : decode cX7_chance 38 = .ok (.istore 4, 2) := by decide +kernel
theorem dX7_chance_40 : decode cX7_chance 40 = .ok (.lconst 0, 1) := by decide +kernel
theorem dX7_chance_41 : decode cX7_chance 41 = .ok (.lstore 5, 2) := by decide +kernel
theorem dX7_chance_43 : decode cX7_chance 43 = .ok (.iconst 0, 1) := by decide +kernel
theorem dX7_chance_44 : decode cX7_chance 44 = .ok (.istore 7, 2) := by decide +kernel
theorem dX7_chance_46 : decode cX7_chance 46 = .ok (.iload 7, 2) := by decide +kernel
theorem dX7_chance_48 : decode cX7_chance 48 = .ok (.iload_n 2, 1) := by decide +kernel
theorem dX7_chance_49 : decode cX7_chance 49 = .ok (.if_icmp .ge 32, 3) := by decide +kernel
theorem dX7_chance_52 : decode cX7_chance 52 = .ok (.lload 5, 2) := by decide +kernel
theorem dX7_chance_54 : decode cX7_chance 54 = .ok (.aload_n 0, 1) := by decide +kernel
theorem dX7_chance_55 : decode cX7_chance 55 = .ok (.iload_n 1, 1) := by decide +kernel
theorem dX7_chance_56 : decode cX7_chance 56 = .ok (.iload 7, 2) := by decide +kernel
theorem dX7_chance_58 : decode cX7_chance 58 = .ok (.iadd, 1) := by decide +kernel
theorem dX7_chance_59 : decode cX7_chance 59 = .ok (.invokevirtual 345, 3) := by decide +kernel
theorem dX7_chance_62 : decode cX7_chance 62 = .ok (.iload 4, 2) := by decide +kernel
theorem dX7_chance_64 : decode cX7_chance 64 = .ok (.if_icmp .gt 7, 3) := by decide +kernel
theorem dX7_chance_67 : decode cX7_chance 67 = .ok (.lconst 1, 1) := by decide +kernel
theorem dX7_chance_68 : decode cX7_chance 68 = .ok (.goto 4, 3) := by decide +kernel
theorem dX7_chance_71 : decode cX7_chance 71 = .ok (.lconst 0, 1) := by decide +kernel
theorem dX7_chance_72 : decode cX7_chance 72 = .ok (.ladd, 1) := by decide +kernel
theorem dX7_chance_73 : decode cX7_chance 73 = .ok (.lstore 5, 2) := by decide +kernel
theorem dX7_chance_75 : decode cX7_chance 75 = .ok (.iinc 7 1, 3) := by decide +kernel
theorem dX7_chance_78 : decode cX7_chance 78 = .ok (.goto (-32), 3) := by decide +kernel
theorem dX7_chance_81 : decode cX7_chance 81 = .ok (.lload 5, 2) := by decide +kernel
theorem dX7_chance_83 : decode cX7_chance 83 = .ok (.iload_n 2, 1) := by decide +kernel
theorem dX7_chance_84 : decode cX7_chance 84 = .ok (.i2l, 1) := by decide +kernel
theorem dX7_chance_85 : decode cX7_chance 85 = .ok (.iload_n 3, 1) := by decide +kernel
theorem dX7_chance_86 : decode cX7_chance 86 = .ok (.invokestatic 325, 3) := by decide +kernel
theorem dX7_chance_89 : decode cX7_chance 89 = .ok (.lreturn, 1) := by decide +kernel
theorem dX7_change_0 : decode cX7_change 0 = .ok (.iload_n 1, 1) := by decide +kernel
theorem dX7_change_1 : decode cX7_change 1 = .ok (.i2l, 1) := by decide +kernel
theorem dX7_change_2 : decode cX7_change 2 = .ok (.lconst 0, 1) := by decide +kernel
theorem dX7_change_3 : decode cX7_change 3 = .ok (.lconst 1, 1) := by decide +kernel
theorem dX7_change_4 : decode cX7_change 4 = .ok (.invokestatic 91, 3) := by decide +kernel
theorem dX7_change_7 : decode cX7_change 7 = .ok (.ifCond .ne 6, 3) := by decide +kernel
theorem dX7_change_10 : decode cX7_change 10 = .ok (.bipush (-2), 2) := by decide +kernel
theorem dX7_change_12 : decode cX7_change 12 = .ok (.ireturn, 1) := by decide +kernel
theorem dX7_change_13 : decode cX7_change 13 = .ok (.aload_n 0, 1) := by decide +kernel
theorem dX7_change_14 : decode cX7_change 14 = .ok (.aload_n 0, 1) := by decide +kernel
theorem dX7_change_15 : decode cX7_change 15 = .ok (.invokevirtual 291, 3) := by decide +kernel
theorem dX7_change_18 : decode cX7_change 18 = .ok (.invokevirtual 294, 3) := by decide +kernel
theorem dX7_change_21 : decode cX7_change 21 = .ok (.aload_n 0, 1) := by decide +kernel
theorem dX7_change_22 : decode cX7_change 22 = .ok (.invokevirtual 313, 3) := by decide +kernel
theorem dX7_change_25 : decode cX7_change 25 = .ok (.aload_n 0, 1) := by decide +kernel
theorem dX7_change_26 : decode cX7_change 26 = .ok (.invokevirtual 298, 3) := by decide +kernel
theorem dX7_change_29 : decode cX7_change 29 = .ok (.istore_n 2, 1) := by decide +kernel
theorem dX7_change_30 : decode cX7_change 30 = .ok (.iconst (-1), 1) := by decide +kernel
theorem dX7_change_31 : decode cX7_change 31 = .ok (.istore_n 3, 1) := by decide +kernel
theorem dX7_change_32 : decode cX7_change 32 = .ok (.iconst 0, 1) := by decide +kernel
theorem dX7_change_33 : decode cX7_change 33 = .ok (.istore 4, 2) := by decide +kernel
theorem dX7_change_35 : decode cX7_change 35 = .ok (.iload 4, 2) := by decide +kernel
theorem dX7_change_37 : decode cX7_change 37 = .ok (.aload_n 0, 1) := by decide +kernel
theorem dX7_change_38 : decode cX7_change 38 = .ok (.getfield 88, 3) := by decide +kernel
theorem dX7_change_41 : decode cX7_change 41 = .ok (.if_icmp .ge 97, 3) := by decide +kernel
theorem dX7_change_44 : decode cX7_change 44 = .ok (.iload 4, 2) := by decide +kernel
theorem dX7_change_46 : decode cX7_change 46 = .ok (.iconst 1, 1) := by decide +kernel
theorem dX7_change_47 : decode cX7_change 47 = .ok (.iadd, 1) := by decide +kernel
theorem dX7_change_48 : decode cX7_change 48 = .ok (.istore 5, 2) := by decide +kernel
theorem dX7_change_50 : decode cX7_change 50 = .ok (.iload 5, 2) := by decide +kernel
theorem dX7_change_52 : decode cX7_change 52 = .ok (.aload_n 0, 1) := by decide +kernel
theorem dX7_change_53 : decode cX7_change 53 = .ok (.getfield 88, 3) := by decide +kernel
theorem dX7_change_56 : decode cX7_change 56 = .ok (.if_icmp .ge 76, 3) := by decide +kernel
theorem dX7_change_59 : decode cX7_change 59 = .ok (.aload_n 0, 1) := by decide +kernel
theorem dX7_change_60 : decode cX7_change 60 = .ok (.getfield 41, 3) := by decide +kernel
theorem dX7_change_63 : decode cX7_change 63 = .ok (.iload 4, 2) := by decide +kernel
theorem dX7_change_65 : decode cX7_change 65 = .ok (.aload_n 0, 1) := by decide +kernel
theorem dX7_change_66 : decode cX7_change 66 = .ok (.getfield 56, 3) := by decide +kernel
theorem dX7_change_69 : decode cX7_change 69 = .ok (.iload 5, 2) := by decide +kernel
theorem dX7_change_71 : decode cX7_change 71 = .ok (.iaload, 1) := by decide +kernel
theorem dX7_change_72 : decode cX7_change 72 = .ok (.iastore, 1) := by decide +kernel
theorem dX7_change_73 : decode cX7_change 73 = .ok (.aload_n 0, 1) := by decide +kernel
theorem dX7_change_74 : decode cX7_change 74 = .ok (.getfield 41, 3) := by decide +kernel
theorem dX7_change_77 : decode cX7_change 77 = .ok (.iload 5, 2) := by decide +kernel
theorem dX7_change_79 : decode cX7_change 79 = .ok (.aload_n 0, 1) := by decide +kernel
theorem dX7_change_80 : decode cX7_change 80 = .ok (.getfield 56, 3) := by decide +kernel
theorem dX7_change_83 : decode cX7_change 83 = .ok (.iload 4, 2) := by decide +kernel
theorem dX7_change_85 : decode cX7_change 85 = .ok (.iaload, 1) := by decide +kernel
theorem dX7_change_86 : decode cX7_change 86 = .ok (.iastore, 1) := by decide +kernel
theorem dX7_change_87 : decode cX7_change 87 = .ok (.aload_n 0, 1) := by decide +kernel
theorem dX7_change_88 : decode cX7_change 88 = .ok (.aload_n 0, 1) := by decide +kernel
theorem dX7_change_89 : decode cX7_change 89 = .ok (.getfield 88, 3) := by decide +kernel
theorem dX7_change_92 : decode cX7_change 92 = .ok (.invokevirtual 101, 3) := by decide +kernel
theorem dX7_change_95 : decode cX7_change 95 = .ok (.ifCond .ne 27, 3) := by decide +kernel
theorem dX7_change_98 : decode cX7_change 98 = .ok (.aload_n 0, 1) := by decide +kernel
theorem dX7_change_99 : decode cX7_change 99 = .ok (.invokevirtual 298, 3) := by decide +kernel
theorem dX7_change_102 : decode cX7_change 102 = .ok (.istore 6, 2) := by decide +kernel
theorem dX7_change_104 : decode cX7_change 104 = .ok (.iload 6, 2) := by decide +kernel
theorem dX7_change_106 : decode cX7_change 106 = .ok (.iload_n 2, 1) := by decide +kernel
theorem dX7_change_107 : decode cX7_change 107 = .ok (.if_icmp .ge 15, 3) := by decide +kernel
theorem dX7_change_110 : decode cX7_change 110 = .ok (.bipush 10, 2) := by decide +kernel
theorem dX7_change_112 : decode cX7_change 112 = .ok (.iload 4, 2) := by decide +kernel
theorem dX7_change_114 : decode cX7_change 114 = .ok (.imul, 1) := by decide +kernel
theorem dX7_change_115 : decode cX7_change 115 = .ok (.iload 5, 2) := by decide +kernel
theorem dX7_change_117 : decode cX7_change 117 = .ok (.iadd, 1) := by decide +kernel
theorem dX7_change_118 : decode cX7_change 118 = .ok (.istore_n 3, 1) := by decide +kernel
theorem dX7_change_119 : decode cX7_change 119 = .ok (.iload 6, 2) := by decide +kernel
theorem dX7_change_121 : decode cX7_change 121 = .ok (.istore_n 2, 1) := by decide +kernel
theorem dX7_change_122 : decode cX7_change 122 = .ok (.aload_n 0, 1) := by decide +kernel
theorem dX7_change_123 : decode cX7_change 123 = .ok (.invokevirtual 316, 3) := by decide +kernel
theorem dX7_change_126 : decode cX7_change 126 = .ok (.iinc 5 1, 3) := by decide +kernel
theorem dX7_change_129 : decode cX7_change 129 = .ok (.goto (-79), 3) := by decide +kernel
theorem dX7_change_132 : decode cX7_change 132 = .ok (.iinc 4 1, 3) := by decide +kernel
theorem dX7_change_135 : decode cX7_change 135 = .ok (.goto (-100), 3) := by decide +kernel
theorem dX7_change_138 : decode cX7_change 138 = .ok (.iload_n 1, 1) := by decide +kernel
theorem dX7_change_139 : decode cX7_change 139 = .ok (.ifCond .ne 7, 3) := by decide +kernel
theorem dX7_change_142 : decode cX7_change 142 = .ok (.iload_n 3, 1) := by decide +kernel
theorem dX7_change_143 : decode cX7_change 143 = .ok (.goto 4, 3) := by decide +kernel
theorem dX7_change_146 : decode cX7_change 146 = .ok (.iload_n 2, 1) := by decide +kernel
theorem dX7_change_147 : decode cX7_change 147 = .ok (.ireturn, 1) := by decide +kernel
theorem dX7_copy_0 : decode cX7_copy 0 = .ok (.iload_n 1, 1) := by decide +kernel
theorem dX7_copy_1 : decode cX7_copy 1 = .ok (.invokestatic 329, 3) := by decide +kernel
theorem dX7_copy_4 : decode cX7_copy 4 = .ok (.ifCond .eq 10, 3) := by decide +kernel
theorem dX7_copy_7 : decode cX7_copy 7 = .ok (.iload_n 3, 1) := by decide +kernel
theorem dX7_copy_8 : decode cX7_copy 8 = .ok (.invokestatic 329, 3) := by decide +kernel
theorem dX7_copy_11 : decode cX7_copy 11 = .ok (.ifCond .ne 6, 3) := by decide +kernel
theorem dX7_copy_14 : decode cX7_copy 14 = .ok (.bipush (-2), 2) := by decide +kernel
theorem dX7_copy_16 : decode cX7_copy 16 = .ok (.ireturn, 1) := by decide +kernel
theorem dX7_copy_17 : decode cX7_copy 17 = .ok (.aload_n 0, 1) := by decide +kernel
theorem dX7_copy_18 : decode cX7_copy 18 = .ok (.getfield 68, 3) := by decide +kernel
theorem dX7_copy_21 : decode cX7_copy 21 = .ok (.iload_n 1, 1) := by decide +kernel
theorem dX7_copy_22 : decode cX7_copy 22 = .ok (.baload, 1) := by decide +kernel
theorem dX7_copy_23 : decode cX7_copy 23 = .ok (.ifCond .eq 12, 3) := by decide +kernel
theorem dX7_copy_26 : decode cX7_copy 26 = .ok (.aload_n 0, 1) := by decide +kernel
theorem dX7_copy_27 : decode cX7_copy 27 = .ok (.getfield 68, 3) := by decide +kernel
theorem dX7_copy_30 : decode cX7_copy 30 = .ok (.iload_n 3, 1) := by decide +kernel
theorem dX7_copy_31 : decode cX7_copy 31 = .ok (.baload, 1) := by decide +kernel
theorem dX7_copy_32 : decode cX7_copy 32 = .ok (.ifCond .ne 6, 3) := by decide +kernel
theorem dX7_copy_35 : decode cX7_copy 35 = .ok (.bipush (-11), 2) := by decide +kernel
theorem dX7_copy_37 : decode cX7_copy 37 = .ok (.ireturn, 1) := by decide +kernel
theorem dX7_copy_38 : decode cX7_copy 38 = .ok (.aload_n 0, 1) := by decide +kernel
theorem dX7_copy_39 : decode cX7_copy 39 = .ok (.getfield 72, 3) := by decide +kernel
theorem dX7_copy_42 : decode cX7_copy 42 = .ok (.iload_n 1, 1) := by decide +kernel
theorem dX7_copy_43 : decode cX7_copy 43 = .ok (.iaload, 1) := by decide +kernel
theorem dX7_copy_44 : decode cX7_copy 44 = .ok (.aload_n 0, 1) := by decide +kernel
theorem dX7_copy_45 : decode cX7_copy 45 = .ok (.getfield 72, 3) := by decide +kernel
theorem dX7_copy_48 : decode cX7_copy 48 = .ok (.iload_n 3, 1) := by decide +kernel
theorem dX7_copy_49 : decode cX7_copy 49 = .ok (.iaload, 1) := by decide +kernel
theorem dX7_copy_50 : decode cX7_copy 50 = .ok (.if_icmp .eq 6, 3) := by decide +kernel
theorem dX7_copy_53 : decode cX7_copy 53 = .ok (.bipush (-13), 2) := by decide +kernel
theorem dX7_copy_55 : decode cX7_copy 55 = .ok (.ireturn, 1) := by decide +kernel
theorem dX7_copy_56 : decode cX7_copy 56 = .ok (.iload 5, 2) := by decide +kernel
theorem dX7_copy_58 : decode cX7_copy 58 = .ok (.ifCond .lt 39, 3) := by decide +kernel
theorem dX7_copy_61 : decode cX7_copy 61 = .ok (.iload_n 2, 1) := by decide +kernel
theorem dX7_copy_62 : decode cX7_copy 62 = .ok (.ifCond .lt 35, 3) := by decide +kernel
theorem dX7_copy_65 : decode cX7_copy 65 = .ok (.iload 4, 2) := by decide +kernel
theorem dX7_copy_67 : decode cX7_copy 67 = .ok (.ifCond .lt 30, 3) := by decide +kernel
theorem dX7_copy_70 : decode cX7_copy 70 = .ok (.iload_n 2, 1) := by decide +kernel
theorem dX7_copy_71 : decode cX7_copy 71 = .ok (.aload_n 0, 1) := by decide +kernel
theorem dX7_copy_72 : decode cX7_copy 72 = .ok (.getfield 75, 3) := by decide +kernel
theorem dX7_copy_75 : decode cX7_copy 75 = .ok (.iload_n 1, 1) := by decide +kernel
theorem dX7_copy_76 : decode cX7_copy 76 = .ok (.iaload, 1) := by decide +kernel
theorem dX7_copy_77 : decode cX7_copy 77 = .ok (.iload 5, 2) := by decide +kernel
theorem dX7_copy_79 : decode cX7_copy 79 = .ok (.isub, 1) := by decide +kernel
theorem dX7_copy_80 : decode cX7_copy 80 = .ok (.if_icmp .gt 17, 3) := by decide +kernel
theorem dX7_copy_83 : decode cX7_copy 83 = .ok (.iload 4, 2) := by decide +kernel
theorem dX7_copy_85 : decode cX7_copy 85 = .ok (.aload_n 0, 1) := by decide +kernel
theorem dX7_copy_86 : decode cX7_copy 86 = .ok (.getfield 75, 3) := by decide +kernel
theorem dX7_copy_89 : decode cX7_copy 89 = .ok (.iload_n 3, 1) := by decide +kernel
theorem dX7_copy_90 : decode cX7_copy 90 = .ok (.iaload, 1) := by decide +kernel
theorem dX7_copy_91 : decode cX7_copy 91 = .ok (.iload 5, 2) := by decide +kernel
theorem dX7_copy_93 : decode cX7_copy 93 = .ok (.isub, 1) := by decide +kernel
theorem dX7_copy_94 : decode cX7_copy 94 = .ok (.if_icmp .le 6, 3) := by decide +kernel
theorem dX7_copy_97 : decode cX7_copy 97 = .ok (.bipush (-12), 2) := by decide +kernel
theorem dX7_copy_99 : decode cX7_copy 99 = .ok (.ireturn, 1) := by decide +kernel
theorem dX7_copy_100 : decode cX7_copy 100 = .ok (.iload_n 1, 1) := by decide +kernel
theorem dX7_copy_101 : decode cX7_copy 101 = .ok (.iload_n 3, 1) := by decide +kernel
theorem dX7_copy_102 : decode cX7_copy 102 = .ok (.if_icmp .ne 13, 3) := by decide +kernel
theorem dX7_copy_105 : decode cX7_copy 105 = .ok (.iload_n 2, 1) := by decide +kernel
theorem dX7_copy_106 : decode cX7_copy 106 = .ok (.iload 4, 2) := by decide +kernel
theorem dX7_copy_108 : decode cX7_copy 108 = .ok (.if_icmp .ge 7, 3) := by decide +kernel
theorem dX7_copy_111 : decode cX7_copy 111 = .ok (.iconst 1, 1) := by decide +kernel
theorem dX7_copy_112 : decode cX7_copy 112 = .ok (.goto 4, 3) := by decide +kernel
theorem dX7_copy_115 : decode cX7_copy 115 = .ok (.iconst 0, 1) := by decide +kernel
theorem dX7_copy_116 : decode cX7_copy 116 = .ok (.istore 6, 2) := by decide +kernel
theorem dX7_copy_118 : decode cX7_copy 118 = .ok (.iconst 0, 1) := by decide +kernel
theorem dX7_copy_119 : decode cX7_copy 119 = .ok (.istore 7, 2) := by decide +kernel
theorem dX7_copy_121 : decode cX7_copy 121 = .ok (.iload 7, 2) := by decide +kernel
theorem dX7_copy_123 : decode cX7_copy 123 = .ok (.iload 5, 2) := by decide +kernel
theorem dX7_copy_125 : decode cX7_copy 125 = .ok (.if_icmp .ge 57, 3) := by decide +kernel
theorem dX7_copy_128 : decode cX7_copy 128 = .ok (.iload 6, 2) := by decide +kernel
theorem dX7_copy_130 : decode cX7_copy 130 = .ok (.ifCond .eq 13, 3) := by decide +kernel
theorem dX7_copy_133 : decode cX7_copy 133 = .ok (.iload 5, 2) := by decide +kernel
theorem dX7_copy_135 : decode cX7_copy 135 = .ok (.iconst 1, 1) := by decide +kernel
theorem dX7_copy_136 : decode cX7_copy 136 = .ok (.isub, 1) := by decide +kernel
theorem dX7_copy_137 : decode cX7_copy 137 = .ok (.iload 7, 2) := by decide +kernel
theorem dX7_copy_139 : decode cX7_copy 139 = .ok (.isub, 1) := by decide +kernel
theorem dX7_copy_140 : decode cX7_copy 140 = .ok (.goto 5, 3) := by decide +kernel
theorem dX7_copy_143 : decode cX7_copy 143 = .ok (.iload 7, 2) := by decide +kernel
theorem dX7_copy_145 : decode cX7_copy 145 = .ok (.istore 8, 2) := by decide +kernel
theorem dX7_copy_147 : decode cX7_copy 147 = .ok (.aload_n 0, 1) := by decide +kernel
theorem dX7_copy_148 : decode cX7_copy 148 = .ok (.getfield 78, 3) := by decide +kernel
theorem dX7_copy_151 : decode cX7_copy 151 = .ok (.bipush 40, 2) := by decide +kernel
theorem dX7_copy_153 : decode cX7_copy 153 = .ok (.iload_n 3, 1) := by decide +kernel
theorem dX7_copy_154 : decode cX7_copy 154 = .ok (.imul, 1) := by decide +kernel
theorem dX7_copy_155 : decode cX7_copy 155 = .ok (.iload 4, 2) := by decide +kernel
theorem dX7_copy_157 : decode cX7_copy 157 = .ok (.iadd, 1) := by decide +kernel
theorem dX7_copy_158 : decode cX7_copy 158 = .ok (.iload 8, 2) := by decide +kernel
theorem dX7_copy_160 : decode cX7_copy 160 = .ok (.iadd, 1) := by decide +kernel
theorem dX7_copy_161 : decode cX7_copy 161 = .ok (.aload_n 0, 1) := by decide +kernel
theorem dX7_copy_162 : decode cX7_copy 162 = .ok (.getfield 78, 3) := by decide +kernel
theorem dX7_copy_165 : decode cX7_copy 165 = .ok (.bipush 40, 2) := by decide +kernel
theorem dX7_copy_167 : decode cX7_copy 167 = .ok (.iload_n 1, 1) := by decide +kernel
theorem dX7_copy_168 : decode cX7_copy 168 = .ok (.imul, 1) := by decide +kernel
theorem dX7_copy_169 : decode cX7_copy 169 = .ok (.iload_n 2, 1) := by decide +kernel
theorem dX7_copy_170 : decode cX7_copy 170 = .ok (.iadd, 1) := by decide +kernel
theorem dX7_copy_171 : decode cX7_copy 171 = .ok (.iload 8, 2) := by decide +kernel
theorem dX7_copy_173 : decode cX7_copy 173 = .ok (.iadd, 1) := by decide +kernel
theorem dX7_copy_174 : decode cX7_copy 174 = .ok (.iaload, 1) := by decide +kernel
theorem dX7_copy_175 : decode cX7_copy 175 = .ok (.iastore, 1) := by decide +kernel
theorem dX7_copy_176 : decode cX7_copy 176 = .ok (.iinc 7 1, 3) := by decide +kernel
theorem dX7_copy_179 : decode cX7_copy 179 = .ok (.goto (-58), 3) := by decide +kernel
theorem dX7_copy_182 : decode cX7_copy 182 = .ok (.iload 5, 2) := by decide +kernel
theorem dX7_copy_184 : decode cX7_copy 184 = .ok (.ireturn, 1) := by decide +kernel
theorem dX7_costAt_0 : decode cX7_costAt 0 = .ok (.iconst 0, 1) := by decide +kernel
theorem dX7_costAt_1 : decode cX7_costAt 1 = .ok (.istore_n 3, 1) := by decide +kernel
theorem dX7_costAt_2 : decode cX7_costAt 2 = .ok (.aload_n 0, 1) := by decide +kernel
theorem dX7_costAt_3 : decode cX7_costAt 3 = .ok (.iload_n 1, 1) := by decide +kernel
theorem dX7_costAt_4 : decode cX7_costAt 4 = .ok (.invokevirtual 273, 3) := by decide +kernel
theorem dX7_costAt_7 : decode cX7_costAt 7 = .ok (.istore 4, 2) := by decide +kernel
theorem dX7_costAt_9 : decode cX7_costAt 9 = .ok (.iconst 0, 1) := by decide +kernel
theorem dX7_costAt_10 : decode cX7_costAt 10 = .ok (.istore 5, 2) := by decide +kernel
theorem dX7_costAt_12 : decode cX7_costAt 12 = .ok (.iload 5, 2) := by decide +kernel
theorem dX7_costAt_14 : decode cX7_costAt 14 = .ok (.aload_n 0, 1) := by decide +kernel
theorem dX7_costAt_15 : decode cX7_costAt 15 = .ok (.getfield 88, 3) := by decide +kernel
theorem dX7_costAt_18 : decode cX7_costAt 18 = .ok (.if_icmp .ge 78, 3) := by decide +kernel
theorem dX7_costAt_21 : decode cX7_costAt 21 = .ok (.iload_n 2, 1) := by decide +kernel
theorem dX7_costAt_22 : decode cX7_costAt 22 = .ok (.ifCond .eq 74, 3) := by decide +kernel
theorem dX7_costAt_25 : decode cX7_costAt 25 = .ok (.bipush 30, 2) := by decide +kernel
theorem dX7_costAt_27 : decode cX7_costAt 27 = .ok (.iload 5, 2) := by decide +kernel
theorem dX7_costAt_29 : decode cX7_costAt 29 = .ok (.imul, 1) := by decide +kernel
theorem dX7_costAt_30 : decode cX7_costAt 30 = .ok (.iconst 3, 1) := by decide +kernel
theorem dX7_costAt_31 : decode cX7_costAt 31 = .ok (.iload_n 1, 1) := by decide +kernel
theorem dX7_costAt_32 : decode cX7_costAt 32 = .ok (.imul, 1) := by decide +kernel
theorem dX7_costAt_33 : decode cX7_costAt 33 = .ok (.iadd, 1) := by decide +kernel
theorem dX7_costAt_34 : decode cX7_costAt 34 = .ok (.aload_n 0, 1) := by decide +kernel
theorem dX7_costAt_35 : decode cX7_costAt 35 = .ok (.getfield 41, 3) := by decide +kernel
theorem dX7_costAt_38 : decode cX7_costAt 38 = .ok (.iload 5, 2) := by decide +kernel
theorem dX7_costAt_40 : decode cX7_costAt 40 = .ok (.iaload, 1) := by decide +kernel
theorem dX7_costAt_41 : decode cX7_costAt 41 = .ok (.iconst 2, 1) := by decide +kernel
theorem dX7_costAt_42 : decode cX7_costAt 42 = .ok (.idiv, 1) := by decide +kernel
theorem dX7_costAt_43 : decode cX7_costAt 43 = .ok (.iadd, 1) := by decide +kernel
theorem dX7_costAt_44 : decode cX7_costAt 44 = .ok (.istore 6, 2) := by decide +kernel
theorem dX7_costAt_46 : decode cX7_costAt 46 = .ok (.iload_n 2, 1) := by decide +kernel
theorem dX7_costAt_47 : decode cX7_costAt 47 = .ok (.iload 5, 2) := by decide +kernel
theorem dX7_costAt_49 : decode cX7_costAt 49 = .ok (.ishr, 1) := by decide +kernel
theorem dX7_costAt_50 : decode cX7_costAt 50 = .ok (.iconst 1, 1) := by decide +kernel
theorem dX7_costAt_51 : decode cX7_costAt 51 = .ok (.iand, 1) := by decide +kernel
theorem dX7_costAt_52 : decode cX7_costAt 52 = .ok (.iconst 1, 1) := by decide +kernel
theorem dX7_costAt_53 : decode cX7_costAt 53 = .ok (.if_icmp .ne 16, 3) := by decide +kernel
theorem dX7_costAt_56 : decode cX7_costAt 56 = .ok (.iload_n 3, 1) := by decide +kernel
theorem dX7_costAt_57 : decode cX7_costAt 57 = .ok (.aload_n 0, 1) := by decide +kernel
theorem dX7_costAt_58 : decode cX7_costAt 58 = .ok (.getfield 47, 3) := by decide +kernel
theorem dX7_costAt_61 : decode cX7_costAt 61 = .ok (.iload 6, 2) := by decide +kernel
theorem dX7_costAt_63 : decode cX7_costAt 63 = .ok (.iaload, 1) := by decide +kernel
theorem dX7_costAt_64 : decode cX7_costAt 64 = .ok (.iadd, 1) := by decide +kernel
theorem dX7_costAt_65 : decode cX7_costAt 65 = .ok (.istore_n 3, 1) := by decide +kernel
theorem dX7_costAt_66 : decode cX7_costAt 66 = .ok (.goto 24, 3) := by decide +kernel
theorem dX7_costAt_69 : decode cX7_costAt 69 = .ok (.iload 4, 2) := by decide +kernel
theorem dX7_costAt_71 : decode cX7_costAt 71 = .ok (.iload 5, 2) := by decide +kernel
theorem dX7_costAt_73 : decode cX7_costAt 73 = .ok (.ishr, 1) := by decide +kernel
theorem dX7_costAt_74 : decode cX7_costAt 74 = .ok (.iconst 1, 1) := by decide +kernel
theorem dX7_costAt_75 : decode cX7_costAt 75 = .ok (.iand, 1) := by decide +kernel
theorem dX7_costAt_76 : decode cX7_costAt 76 = .ok (.iconst 1, 1) := by decide +kernel
theorem dX7_costAt_77 : decode cX7_costAt 77 = .ok (.if_icmp .ne 13, 3) := by decide +kernel
theorem dX7_costAt_80 : decode cX7_costAt 80 = .ok (.iload_n 3, 1) := by decide +kernel
theorem dX7_costAt_81 : decode cX7_costAt 81 = .ok (.aload_n 0, 1) := by decide +kernel
theorem dX7_costAt_82 : decode cX7_costAt 82 = .ok (.getfield 50, 3) := by decide +kernel
theorem dX7_costAt_85 : decode cX7_costAt 85 = .ok (.iload 6, 2) := by decide +kernel
theorem dX7_costAt_87 : decode cX7_costAt 87 = .ok (.iaload, 1) := by decide +kernel
theorem dX7_costAt_88 : decode cX7_costAt 88 = .ok (.iadd, 1) := by decide +kernel
theorem dX7_costAt_89 : decode cX7_costAt 89 = .ok (.istore_n 3, 1) := by decide +kernel
theorem dX7_costAt_90 : decode cX7_costAt 90 = .ok (.iinc 5 1, 3) := by decide +kernel
theorem dX7_costAt_93 : decode cX7_costAt 93 = .ok (.goto (-81), 3) := by decide +kernel
theorem dX7_costAt_96 : decode cX7_costAt 96 = .ok (.iload_n 3, 1) := by decide +kernel
theorem dX7_costAt_97 : decode cX7_costAt 97 = .ok (.ireturn, 1) := by decide +kernel
theorem dX7_costOfStanding_0 : decode cX7_costOfStanding 0 = .ok (.aload_n 0, 1) := by decide +kernel
theorem dX7_costOfStanding_1 : decode cX7_costOfStanding 1 = .ok (.invokevirtual 298, 3) := by decide +kernel
theorem dX7_costOfStanding_4 : decode cX7_costOfStanding 4 = .ok (.istore_n 1, 1) := by decide +kernel
theorem dX7_costOfStanding_5 : decode cX7_costOfStanding 5 = .ok (.iconst 0, 1) := by decide +kernel
theorem dX7_costOfStanding_6 : decode cX7_costOfStanding 6 = .ok (.istore_n 2, 1) := by decide +kernel
theorem dX7_costOfStanding_7 : decode cX7_costOfStanding 7 = .ok (.iload_n 2, 1) := by decide +kernel
theorem dX7_costOfStanding_8 : decode cX7_costOfStanding 8 = .ok (.aload_n 0, 1) := by decide +kernel
theorem dX7_costOfStanding_9 : decode cX7_costOfStanding 9 = .ok (.getfield 88, 3) := by decide +kernel
theorem dX7_costOfStanding_12 : decode cX7_costOfStanding 12 = .ok (.if_icmp .ge 48, 3) := by decide +kernel
theorem dX7_costOfStanding_15 : decode cX7_costOfStanding 15 = .ok (.iload_n 1, 1) := by decide +kernel
theorem dX7_costOfStanding_16 : decode cX7_costOfStanding 16 = .ok (.aload_n 0, 1) := by decide +kernel
theorem dX7_costOfStanding_17 : decode cX7_costOfStanding 17 = .ok (.getfield 41, 3) := by decide +kernel
theorem dX7_costOfStanding_20 : decode cX7_costOfStanding 20 = .ok (.iload_n 2, 1) := by decide +kernel
theorem dX7_costOfStanding_21 : decode cX7_costOfStanding 21 = .ok (.iaload, 1) := by decide +kernel
theorem dX7_costOfStanding_22 : decode cX7_costOfStanding 22 = .ok (.aload_n 0, 1) := by decide +kernel
theorem dX7_costOfStanding_23 : decode cX7_costOfStanding 23 = .ok (.getfield 56, 3) := by decide +kernel
theorem dX7_costOfStanding_26 : decode cX7_costOfStanding 26 = .ok (.iload_n 2, 1) := by decide +kernel
theorem dX7_costOfStanding_27 : decode cX7_costOfStanding 27 = .ok (.iaload, 1) := by decide +kernel
theorem dX7_costOfStanding_28 : decode cX7_costOfStanding 28 = .ok (.if_icmp .eq 23, 3) := by decide +kernel
theorem dX7_costOfStanding_31 : decode cX7_costOfStanding 31 = .ok (.aload_n 0, 1) := by decide +kernel
theorem dX7_costOfStanding_32 : decode cX7_costOfStanding 32 = .ok (.getfield 53, 3) := by decide +kernel
theorem dX7_costOfStanding_35 : decode cX7_costOfStanding 35 = .ok (.iconst 3, 1) := by decide +kernel
theorem dX7_costOfStanding_36 : decode cX7_costOfStanding 36 = .ok (.iload_n 2, 1) := by decide +kernel
theorem dX7_costOfStanding_37 : decode cX7_costOfStanding 37 = .ok (.imul, 1) := by decide +kernel
theorem dX7_costOfStanding_38 : decode cX7_costOfStanding 38 = .ok (.aload_n 0, 1) := by decide +kernel
theorem dX7_costOfStanding_39 : decode cX7_costOfStanding 39 = .ok (.getfield 41, 3) := by decide +kernel
theorem dX7_costOfStanding_42 : decode cX7_costOfStanding 42 = .ok (.iload_n 2, 1) := by decide +kernel
theorem dX7_costOfStanding_43 : decode cX7_costOfStanding 43 = .ok (.iaload, 1) := by decide +kernel
theorem dX7_costOfStanding_44 : decode cX7_costOfStanding 44 = .ok (.iconst 2, 1) := by decide +kernel
theorem dX7_costOfStanding_45 : decode cX7_costOfStanding 45 = .ok (.idiv, 1) := by decide +kernel
theorem dX7_costOfStanding_46 : decode cX7_costOfStanding 46 = .ok (.iadd, 1) := by decide +kernel
theorem dX7_costOfStanding_47 : decode cX7_costOfStanding 47 = .ok (.iaload, 1) := by decide +kernel
theorem dX7_costOfStanding_48 : decode cX7_costOfStanding 48 = .ok (.goto 4, 3) := by decide +kernel
theorem dX7_costOfStanding_51 : decode cX7_costOfStanding 51 = .ok (.iconst 0, 1) := by decide +kernel
theorem dX7_costOfStanding_52 : decode cX7_costOfStanding 52 = .ok (.iadd, 1) := by decide +kernel
theorem dX7_costOfStanding_53 : decode cX7_costOfStanding 53 = .ok (.istore_n 1, 1) := by decide +kernel
theorem dX7_costOfStanding_54 : decode cX7_costOfStanding 54 = .ok (.iinc 2 1, 3) := by decide +kernel
theorem dX7_costOfStanding_57 : decode cX7_costOfStanding 57 = .ok (.goto (-50), 3) := by decide +kernel
theorem dX7_costOfStanding_60 : decode cX7_costOfStanding 60 = .ok (.iload_n 1, 1) := by decide +kernel
theorem dX7_costOfStanding_61 : decode cX7_costOfStanding 61 = .ok (.ireturn, 1) := by decide +kernel
theorem dX7_costsOf_0 : decode cX7_costsOf 0 = .ok (.aload_n 0, 1) := by decide +kernel
theorem dX7_costsOf_1 : decode cX7_costsOf 1 = .ok (.getfield 26, 3) := by decide +kernel
theorem dX7_costsOf_4 : decode cX7_costsOf 4 = .ok (.iload_n 1, 1) := by decide +kernel
theorem dX7_costsOf_5 : decode cX7_costsOf 5 = .ok (.iaload, 1) := by decide +kernel
theorem dX7_costsOf_6 : decode cX7_costsOf 6 = .ok (.istore_n 3, 1) := by decide +kernel
theorem dX7_costsOf_7 : decode cX7_costsOf 7 = .ok (.iload_n 3, 1) := by decide +kernel
theorem dX7_costsOf_8 : decode cX7_costsOf 8 = .ok (.iconst 2, 1) := by decide +kernel
theorem dX7_costsOf_9 : decode cX7_costsOf 9 = .ok (.if_icmp .ne 9, 3) := by decide +kernel
theorem dX7_costsOf_12 : decode cX7_costsOf 12 = .ok (.iconst 2, 1) := by decide +kernel
theorem dX7_costsOf_13 : decode cX7_costsOf 13 = .ok (.iload_n 2, 1) := by decide +kernel
theorem dX7_costsOf_14 : decode cX7_costsOf 14 = .ok (.imul, 1) := by decide +kernel
theorem dX7_costsOf_15 : decode cX7_costsOf 15 = .ok (.goto 44, 3) := by decide +kernel
theorem dX7_costsOf_18 : decode cX7_costsOf 18 = .ok (.iload_n 3, 1) := by decide +kernel
theorem dX7_costsOf_19 : decode cX7_costsOf 19 = .ok (.iconst 4, 1) := by decide +kernel
theorem dX7_costsOf_20 : decode cX7_costsOf 20 = .ok (.if_icmp .ne 16, 3) := by decide +kernel
theorem dX7_costsOf_23 : decode cX7_costsOf 23 = .ok (.iconst 2, 1) := by decide +kernel
theorem dX7_costsOf_24 : decode cX7_costsOf 24 = .ok (.iload_n 2, 1) := by decide +kernel
theorem dX7_costsOf_25 : decode cX7_costsOf 25 = .ok (.imul, 1) := by decide +kernel
theorem dX7_costsOf_26 : decode cX7_costsOf 26 = .ok (.aload_n 0, 1) := by decide +kernel
theorem dX7_costsOf_27 : decode cX7_costsOf 27 = .ok (.getfield 32, 3) := by decide +kernel
theorem dX7_costsOf_30 : decode cX7_costsOf 30 = .ok (.iload_n 1, 1) := by decide +kernel
theorem dX7_costsOf_31 : decode cX7_costsOf 31 = .ok (.iaload, 1) := by decide +kernel
theorem dX7_costsOf_32 : decode cX7_costsOf 32 = .ok (.iadd, 1) := by decide +kernel
theorem dX7_costsOf_33 : decode cX7_costsOf 33 = .ok (.goto 26, 3) := by decide +kernel
theorem dX7_costsOf_36 : decode cX7_costsOf 36 = .ok (.iload_n 3, 1) := by decide +kernel
theorem dX7_costsOf_37 : decode cX7_costsOf 37 = .ok (.iconst 3, 1) := by decide +kernel
theorem dX7_costsOf_38 : decode cX7_costsOf 38 = .ok (.if_icmp .ne 9, 3) := by decide +kernel
theorem dX7_costsOf_41 : decode cX7_costsOf 41 = .ok (.iload_n 2, 1) := by decide +kernel
theorem dX7_costsOf_42 : decode cX7_costsOf 42 = .ok (.iconst 1, 1) := by decide +kernel
theorem dX7_costsOf_43 : decode cX7_costsOf 43 = .ok (.isub, 1) := by decide +kernel
theorem dX7_costsOf_44 : decode cX7_costsOf 44 = .ok (.goto 15, 3) := by decide +kernel
theorem dX7_costsOf_47 : decode cX7_costsOf 47 = .ok (.iload_n 3, 1) := by decide +kernel
theorem dX7_costsOf_48 : decode cX7_costsOf 48 = .ok (.iconst 5, 1) := by decide +kernel
theorem dX7_costsOf_49 : decode cX7_costsOf 49 = .ok (.if_icmp .ne 9, 3) := by decide +kernel
theorem dX7_costsOf_52 : decode cX7_costsOf 52 = .ok (.iload_n 2, 1) := by decide +kernel
theorem dX7_costsOf_53 : decode cX7_costsOf 53 = .ok (.iconst 2, 1) := by decide +kernel
theorem dX7_costsOf_54 : decode cX7_costsOf 54 = .ok (.idiv, 1) := by decide +kernel
theorem dX7_costsOf_55 : decode cX7_costsOf 55 = .ok (.goto 4, 3) := by decide +kernel
theorem dX7_costsOf_58 : decode cX7_costsOf 58 = .ok (.iload_n 2, 1) := by decide +kernel
theorem dX7_costsOf_59 : decode cX7_costsOf 59 = .ok (.istore 4, 2) := by decide +kernel
theorem dX7_costsOf_61 : decode cX7_costsOf 61 = .ok (.iload 4, 2) := by decide +kernel
theorem dX7_costsOf_63 : decode cX7_costsOf 63 = .ok (.ifCond .ge 7, 3) := by decide +kernel
theorem dX7_costsOf_66 : decode cX7_costsOf 66 = .ok (.iconst 0, 1) := by decide +kernel
theorem dX7_costsOf_67 : decode cX7_costsOf 67 = .ok (.goto 5, 3) := by decide +kernel
theorem dX7_costsOf_70 : decode cX7_costsOf 70 = .ok (.iload 4, 2) := by decide +kernel
theorem dX7_costsOf_72 : decode cX7_costsOf 72 = .ok (.ireturn, 1) := by decide +kernel
theorem dX7_count_0 : decode cX7_count 0 = .ok (.iload_n 1, 1) := by decide +kernel
theorem dX7_count_1 : decode cX7_count 1 = .ok (.i2l, 1) := by decide +kernel
theorem dX7_count_2 : decode cX7_count 2 = .ok (.lconst 0, 1) := by decide +kernel
theorem dX7_count_3 : decode cX7_count 3 = .ok (.ldc2_w 356, 3) := by decide +kernel
theorem dX7_count_6 : decode cX7_count 6 = .ok (.invokestatic 91, 3) := by decide +kernel
theorem dX7_count_9 : decode cX7_count 9 = .ok (.ifCond .ne 6, 3) := by decide +kernel
theorem dX7_count_12 : decode cX7_count 12 = .ok (.bipush (-2), 2) := by decide +kernel
theorem dX7_count_14 : decode cX7_count 14 = .ok (.ireturn, 1) := by decide +kernel
theorem dX7_count_15 : decode cX7_count 15 = .ok (.iload_n 1, 1) := by decide +kernel
theorem dX7_count_16 : decode cX7_count 16 = .ok (.ifCond .ne 10, 3) := by decide +kernel
theorem dX7_count_19 : decode cX7_count 19 = .ok (.aload_n 0, 1) := by decide +kernel
theorem dX7_count_20 : decode cX7_count 20 = .ok (.getfield 88, 3) := by decide +kernel
theorem dX7_count_23 : decode cX7_count 23 = .ok (.goto 43, 3) := by decide +kernel
theorem dX7_count_26 : decode cX7_count 26 = .ok (.iload_n 1, 1) := by decide +kernel
theorem dX7_count_27 : decode cX7_count 27 = .ok (.iconst 1, 1) := by decide +kernel
theorem dX7_count_28 : decode cX7_count 28 = .ok (.if_icmp .ne 10, 3) := by decide +kernel
theorem dX7_count_31 : decode cX7_count 31 = .ok (.aload_n 0, 1) := by decide +kernel
theorem dX7_count_32 : decode cX7_count 32 = .ok (.getfield 23, 3) := by decide +kernel
theorem dX7_count_35 : decode cX7_count 35 = .ok (.goto 31, 3) := by decide +kernel
theorem dX7_count_38 : decode cX7_count 38 = .ok (.iload_n 1, 1) := by decide +kernel
theorem dX7_count_39 : decode cX7_count 39 = .ok (.iconst 2, 1) := by decide +kernel
theorem dX7_count_40 : decode cX7_count 40 = .ok (.if_icmp .ne 10, 3) := by decide +kernel
theorem dX7_count_43 : decode cX7_count 43 = .ok (.aload_n 0, 1) := by decide +kernel
theorem dX7_count_44 : decode cX7_count 44 = .ok (.getfield 85, 3) := by decide +kernel
theorem dX7_count_47 : decode cX7_count 47 = .ok (.goto 19, 3) := by decide +kernel
theorem dX7_count_50 : decode cX7_count 50 = .ok (.iload_n 1, 1) := by decide +kernel
theorem dX7_count_51 : decode cX7_count 51 = .ok (.iconst 3, 1) := by decide +kernel
theorem dX7_count_52 : decode cX7_count 52 = .ok (.if_icmp .ne 10, 3) := by decide +kernel
theorem dX7_count_55 : decode cX7_count 55 = .ok (.aload_n 0, 1) := by decide +kernel
theorem dX7_count_56 : decode cX7_count 56 = .ok (.getfield 130, 3) := by decide +kernel
theorem dX7_count_59 : decode cX7_count 59 = .ok (.goto 7, 3) := by decide +kernel
theorem dX7_count_62 : decode cX7_count 62 = .ok (.aload_n 0, 1) := by decide +kernel
theorem dX7_count_63 : decode cX7_count 63 = .ok (.getfield 247, 3) := by decide +kernel
theorem dX7_count_66 : decode cX7_count 66 = .ok (.ireturn, 1) := by decide +kernel
theorem dX7_doesLet_0 : decode cX7_doesLet 0 = .ok (.aload_n 0, 1) := by decide +kernel
theorem dX7_doesLet_1 : decode cX7_doesLet 1 = .ok (.getfield 26, 3) := by decide +kernel
theorem dX7_doesLet_4 : decode cX7_doesLet 4 = .ok (.iload_n 1, 1) := by decide +kernel
theorem dX7_doesLet_5 : decode cX7_doesLet 5 = .ok (.iaload, 1) := by decide +kernel
theorem dX7_doesLet_6 : decode cX7_doesLet 6 = .ok (.istore_n 3, 1) := by decide +kernel
theorem dX7_doesLet_7 : decode cX7_doesLet 7 = .ok (.aload_n 0, 1) := by decide +kernel
theorem dX7_doesLet_8 : decode cX7_doesLet 8 = .ok (.getfield 32, 3) := by decide +kernel
theorem dX7_doesLet_11 : decode cX7_doesLet 11 = .ok (.iload_n 2, 1) := by decide +kernel
theorem dX7_doesLet_12 : decode cX7_doesLet 12 = .ok (.iaload, 1) := by decide +kernel
theorem dX7_doesLet_13 : decode cX7_doesLet 13 = .ok (.istore 4, 2) := by decide +kernel
theorem dX7_doesLet_15 : decode cX7_doesLet 15 = .ok (.iload_n 3, 1) := by decide +kernel
theorem dX7_doesLet_16 : decode cX7_doesLet 16 = .ok (.ifCond .eq 13, 3) := by decide +kernel
theorem dX7_doesLet_19 : decode cX7_doesLet 19 = .ok (.iload_n 3, 1) := by decide +kernel
theorem dX7_doesLet_20 : decode cX7_doesLet 20 = .ok (.iconst 2, 1) := by decide +kernel
theorem dX7_doesLet_21 : decode cX7_doesLet 21 = .ok (.if_icmp .eq 8, 3) := by decide +kernel
theorem dX7_doesLet_24 : decode cX7_doesLet 24 = .ok (.iload_n 3, 1) := by decide +kernel
theorem dX7_doesLet_25 : decode cX7_doesLet 25 = .ok (.iconst 4, 1) := by decide +kernel
theorem dX7_doesLet_26 : decode cX7_doesLet 26 = .ok (.if_icmp .ne 5, 3) := by decide +kernel
theorem dX7_doesLet_29 : decode cX7_doesLet 29 = .ok (.iconst 0, 1) := by decide +kernel
theorem dX7_doesLet_30 : decode cX7_doesLet 30 = .ok (.ireturn, 1) := by decide +kernel
theorem dX7_doesLet_31 : decode cX7_doesLet 31 = .ok (.iload 4, 2) := by decide +kernel
theorem dX7_doesLet_33 : decode cX7_doesLet 33 = .ok (.aload_n 0, 1) := by decide +kernel
theorem dX7_doesLet_34 : decode cX7_doesLet 34 = .ok (.getfield 29, 3) := by decide +kernel
theorem dX7_doesLet_37 : decode cX7_doesLet 37 = .ok (.iload_n 1, 1) := by decide +kernel
theorem dX7_doesLet_38 : decode cX7_doesLet 38 = .ok (.iaload, 1) := by decide +kernel
theorem dX7_doesLet_39 : decode cX7_doesLet 39 = .ok (.if_icmp .ge 5, 3) := by decide +kernel
theorem dX7_doesLet_42 : decode cX7_doesLet 42 = .ok (.iconst 1, 1) := by decide +kernel
theorem dX7_doesLet_43 : decode cX7_doesLet 43 = .ok (.ireturn, 1) := by decide +kernel
theorem dX7_doesLet_44 : decode cX7_doesLet 44 = .ok (.iload_n 3, 1) := by decide +kernel
theorem dX7_doesLet_45 : decode cX7_doesLet 45 = .ok (.iconst 3, 1) := by decide +kernel
theorem dX7_doesLet_46 : decode cX7_doesLet 46 = .ok (.if_icmp .ne 14, 3) := by decide +kernel
theorem dX7_doesLet_49 : decode cX7_doesLet 49 = .ok (.aload_n 0, 1) := by decide +kernel
theorem dX7_doesLet_50 : decode cX7_doesLet 50 = .ok (.getfield 41, 3) := by decide +kernel
theorem dX7_doesLet_53 : decode cX7_doesLet 53 = .ok (.iload_n 1, 1) := by decide +kernel
theorem dX7_doesLet_54 : decode cX7_doesLet 54 = .ok (.iaload, 1) := by decide +kernel
theorem dX7_doesLet_55 : decode cX7_doesLet 55 = .ok (.iconst 2, 1) := by decide +kernel
theorem dX7_doesLet_56 : decode cX7_doesLet 56 = .ok (.idiv, 1) := by decide +kernel
theorem dX7_doesLet_57 : decode cX7_doesLet 57 = .ok (.ifCond .eq 22, 3) := by decide +kernel
theorem dX7_doesLet_60 : decode cX7_doesLet 60 = .ok (.iload_n 3, 1) := by decide +kernel
theorem dX7_doesLet_61 : decode cX7_doesLet 61 = .ok (.iconst 5, 1) := by decide +kernel
theorem dX7_doesLet_62 : decode cX7_doesLet 62 = .ok (.if_icmp .ne 21, 3) := by decide +kernel
theorem dX7_doesLet_65 : decode cX7_doesLet 65 = .ok (.iload 4, 2) := by decide +kernel
theorem dX7_doesLet_67 : decode cX7_doesLet 67 = .ok (.aload_n 0, 1) := by decide +kernel
theorem dX7_doesLet_68 : decode cX7_doesLet 68 = .ok (.getfield 32, 3) := by decide +kernel
theorem dX7_doesLet_71 : decode cX7_doesLet 71 = .ok (.iload_n 1, 1) := by decide +kernel
theorem dX7_doesLet_72 : decode cX7_doesLet 72 = .ok (.iaload, 1) := by decide +kernel
theorem dX7_doesLet_73 : decode cX7_doesLet 73 = .ok (.iadd, 1) := by decide +kernel
theorem dX7_doesLet_74 : decode cX7_doesLet 74 = .ok (.bipush 10, 2) := by decide +kernel
theorem dX7_doesLet_76 : decode cX7_doesLet 76 = .ok (.if_icmp .ge 7, 3) := by decide +kernel
theorem dX7_doesLet_79 : decode cX7_doesLet 79 = .ok (.iconst 1, 1) := by decide +kernel
theorem dX7_doesLet_80 : decode cX7_doesLet 80 = .ok (.goto 4, 3) := by decide +kernel
theorem dX7_doesLet_83 : decode cX7_doesLet 83 = .ok (.iconst 0, 1) := by decide +kernel
theorem dX7_doesLet_84 : decode cX7_doesLet 84 = .ok (.ireturn, 1) := by decide +kernel
theorem dX7_drawn_0 : decode cX7_drawn 0 = .ok (.aload_n 0, 1) := by decide +kernel
theorem dX7_drawn_1 : decode cX7_drawn 1 = .ok (.iload_n 1, 1) := by decide +kernel
theorem dX7_drawn_2 : decode cX7_drawn 2 = .ok (.invokevirtual 345, 3) := by decide +kernel
theorem dX7_drawn_5 : decode cX7_drawn 5 = .ok (.ireturn, 1) := by decide +kernel
theorem dX7_draws_0 : decode cX7_draws 0 = .ok (.aload_n 0, 1) := by decide +kernel
theorem dX7_draws_1 : decode cX7_draws 1 = .ok (.aload_n 0, 1) := by decide +kernel
theorem dX7_draws_2 : decode cX7_draws 2 = .ok (.invokevirtual 291, 3) := by decide +kernel
theorem dX7_draws_5 : decode cX7_draws 5 = .ok (.invokevirtual 294, 3) := by decide +kernel
theorem dX7_draws_8 : decode cX7_draws 8 = .ok (.aload_n 0, 1) := by decide +kernel
theorem dX7_draws_9 : decode cX7_draws 9 = .ok (.invokevirtual 313, 3) := by decide +kernel
theorem dX7_draws_12 : decode cX7_draws 12 = .ok (.iload_n 1, 1) := by decide +kernel
theorem dX7_draws_13 : decode cX7_draws 13 = .ok (.istore_n 2, 1) := by decide +kernel
theorem dX7_draws_14 : decode cX7_draws 14 = .ok (.iconst 0, 1) := by decide +kernel
theorem dX7_draws_15 : decode cX7_draws 15 = .ok (.istore_n 3, 1) := by decide +kernel
theorem dX7_draws_16 : decode cX7_draws 16 = .ok (.iload_n 3, 1) := by decide +kernel
theorem dX7_draws_17 : decode cX7_draws 17 = .ok (.aload_n 0, 1) := by decide +kernel
theorem dX7_draws_18 : decode cX7_draws 18 = .ok (.getfield 88, 3) := by decide +kernel
theorem dX7_draws_21 : decode cX7_draws 21 = .ok (.if_icmp .ge 62, 3) := by decide +kernel
theorem dX7_draws_24 : decode cX7_draws 24 = .ok (.iload_n 2, 1) := by decide +kernel
theorem dX7_draws_25 : decode cX7_draws 25 = .ok (.ldc_w 344, 3) := by decide +kernel
theorem dX7_draws_28 : decode cX7_draws 28 = .ok (.imul, 1) := by decide +kernel
theorem dX7_draws_29 : decode cX7_draws 29 = .ok (.sipush 12345, 3) := by decide +kernel
theorem dX7_draws_32 : decode cX7_draws 32 = .ok (.iadd, 1) := by decide +kernel
theorem dX7_draws_33 : decode cX7_draws 33 = .ok (.istore_n 2, 1) := by decide +kernel
theorem dX7_draws_34 : decode cX7_draws 34 = .ok (.aload_n 0, 1) := by decide +kernel
theorem dX7_draws_35 : decode cX7_draws 35 = .ok (.getfield 41, 3) := by decide +kernel
theorem dX7_draws_38 : decode cX7_draws 38 = .ok (.iload_n 3, 1) := by decide +kernel
theorem dX7_draws_39 : decode cX7_draws 39 = .ok (.iload_n 2, 1) := by decide +kernel
theorem dX7_draws_40 : decode cX7_draws 40 = .ok (.bipush 9, 2) := by decide +kernel
theorem dX7_draws_42 : decode cX7_draws 42 = .ok (.iushr, 1) := by decide +kernel
theorem dX7_draws_43 : decode cX7_draws 43 = .ok (.bipush 6, 2) := by decide +kernel
theorem dX7_draws_45 : decode cX7_draws 45 = .ok (.irem, 1) := by decide +kernel
theorem dX7_draws_46 : decode cX7_draws 46 = .ok (.iastore, 1) := by decide +kernel
theorem dX7_draws_47 : decode cX7_draws 47 = .ok (.aload_n 0, 1) := by decide +kernel
theorem dX7_draws_48 : decode cX7_draws 48 = .ok (.iload_n 3, 1) := by decide +kernel
theorem dX7_draws_49 : decode cX7_draws 49 = .ok (.iconst 1, 1) := by decide +kernel
theorem dX7_draws_50 : decode cX7_draws 50 = .ok (.iadd, 1) := by decide +kernel
theorem dX7_draws_51 : decode cX7_draws 51 = .ok (.invokevirtual 101, 3) := by decide +kernel
theorem dX7_draws_54 : decode cX7_draws 54 = .ok (.ifCond .eq 23, 3) := by decide +kernel
theorem dX7_draws_57 : decode cX7_draws 57 = .ok (.aload_n 0, 1) := by decide +kernel
theorem dX7_draws_58 : decode cX7_draws 58 = .ok (.getfield 41, 3) := by decide +kernel
theorem dX7_draws_61 : decode cX7_draws 61 = .ok (.iload_n 3, 1) := by decide +kernel
theorem dX7_draws_62 : decode cX7_draws 62 = .ok (.aload_n 0, 1) := by decide +kernel
theorem dX7_draws_63 : decode cX7_draws 63 = .ok (.getfield 41, 3) := by decide +kernel
theorem dX7_draws_66 : decode cX7_draws 66 = .ok (.iload_n 3, 1) := by decide +kernel
theorem dX7_draws_67 : decode cX7_draws 67 = .ok (.iaload, 1) := by decide +kernel
theorem dX7_draws_68 : decode cX7_draws 68 = .ok (.iconst 1, 1) := by decide +kernel
theorem dX7_draws_69 : decode cX7_draws 69 = .ok (.iadd, 1) := by decide +kernel
theorem dX7_draws_70 : decode cX7_draws 70 = .ok (.bipush 6, 2) := by decide +kernel
theorem dX7_draws_72 : decode cX7_draws 72 = .ok (.irem, 1) := by decide +kernel
theorem dX7_draws_73 : decode cX7_draws 73 = .ok (.iastore, 1) := by decide +kernel
theorem dX7_draws_74 : decode cX7_draws 74 = .ok (.goto (-27), 3) := by decide +kernel
theorem dX7_draws_77 : decode cX7_draws 77 = .ok (.iinc 3 1, 3) := by decide +kernel
theorem dX7_draws_80 : decode cX7_draws 80 = .ok (.goto (-64), 3) := by decide +kernel
theorem dX7_draws_83 : decode cX7_draws 83 = .ok (.aload_n 0, 1) := by decide +kernel
theorem dX7_draws_84 : decode cX7_draws 84 = .ok (.invokevirtual 298, 3) := by decide +kernel
theorem dX7_draws_87 : decode cX7_draws 87 = .ok (.istore_n 3, 1) := by decide +kernel
theorem dX7_draws_88 : decode cX7_draws 88 = .ok (.aload_n 0, 1) := by decide +kernel
theorem dX7_draws_89 : decode cX7_draws 89 = .ok (.invokevirtual 316, 3) := by decide +kernel
theorem dX7_draws_92 : decode cX7_draws 92 = .ok (.iload_n 3, 1) := by decide +kernel
theorem dX7_draws_93 : decode cX7_draws 93 = .ok (.ireturn, 1) := by decide +kernel
theorem dX7_either_0 : decode cX7_either 0 = .ok (.aload_n 0, 1) := by decide +kernel
theorem dX7_either_1 : decode cX7_either 1 = .ok (.invokevirtual 237, 3) := by decide +kernel
theorem dX7_either_4 : decode cX7_either 4 = .ok (.istore_n 1, 1) := by decide +kernel
theorem dX7_either_5 : decode cX7_either 5 = .ok (.aload_n 0, 1) := by decide +kernel
theorem dX7_either_6 : decode cX7_either 6 = .ok (.bipush 111, 2) := by decide +kernel
theorem dX7_either_8 : decode cX7_either 8 = .ok (.bipush 114, 2) := by decide +kernel
theorem dX7_either_10 : decode cX7_either 10 = .ok (.iconst 0, 1) := by decide +kernel
theorem dX7_either_11 : decode cX7_either 11 = .ok (.iconst 0, 1) := by decide +kernel
theorem dX7_either_12 : decode cX7_either 12 = .ok (.iconst 0, 1) := by decide +kernel
theorem dX7_either_13 : decode cX7_either 13 = .ok (.iconst 0, 1) := by decide +kernel
theorem dX7_either_14 : decode cX7_either 14 = .ok (.iconst 0, 1) := by decide +kernel
theorem dX7_either_15 : decode cX7_either 15 = .ok (.iconst 0, 1) := by decide +kernel
theorem dX7_either_16 : decode cX7_either 16 = .ok (.invokevirtual 185, 3) := by decide +kernel
theorem dX7_either_19 : decode cX7_either 19 = .ok (.ifCond .eq 29, 3) := by decide +kernel
theorem dX7_either_22 : decode cX7_either 22 = .ok (.aload_n 0, 1) := by decide +kernel
theorem dX7_either_23 : decode cX7_either 23 = .ok (.invokevirtual 182, 3) := by decide +kernel
theorem dX7_either_26 : decode cX7_either 26 = .ok (.aload_n 0, 1) := by decide +kernel
theorem dX7_either_27 : decode cX7_either 27 = .ok (.invokevirtual 237, 3) := by decide +kernel
theorem dX7_either_30 : decode cX7_either 30 = .ok (.istore_n 2, 1) := by decide +kernel
theorem dX7_either_31 : decode cX7_either 31 = .ok (.iload_n 1, 1) := by decide +kernel
theorem dX7_either_32 : decode cX7_either 32 = .ok (.ifCond .ne 7, 3) := by decide +kernel
theorem dX7_either_35 : decode cX7_either 35 = .ok (.iload_n 2, 1) := by decide +kernel
theorem dX7_either_36 : decode cX7_either 36 = .ok (.ifCond .eq 7, 3) := by decide +kernel
theorem dX7_either_39 : decode cX7_either 39 = .ok (.iconst 1, 1) := by decide +kernel
theorem dX7_either_40 : decode cX7_either 40 = .ok (.goto 4, 3) := by decide +kernel
theorem dX7_either_43 : decode cX7_either 43 = .ok (.iconst 0, 1) := by decide +kernel
theorem dX7_either_44 : decode cX7_either 44 = .ok (.istore_n 1, 1) := by decide +kernel
theorem dX7_either_45 : decode cX7_either 45 = .ok (.goto (-40), 3) := by decide +kernel
theorem dX7_either_48 : decode cX7_either 48 = .ok (.iload_n 1, 1) := by decide +kernel
theorem dX7_either_49 : decode cX7_either 49 = .ok (.ireturn, 1) := by decide +kernel
theorem dX7_fail_0 : decode cX7_fail 0 = .ok (.aload_n 0, 1) := by decide +kernel
theorem dX7_fail_1 : decode cX7_fail 1 = .ok (.getfield 166, 3) := by decide +kernel
theorem dX7_fail_4 : decode cX7_fail 4 = .ok (.ifCond .ne 16, 3) := by decide +kernel
theorem dX7_fail_7 : decode cX7_fail 7 = .ok (.aload_n 0, 1) := by decide +kernel
theorem dX7_fail_8 : decode cX7_fail 8 = .ok (.iconst 1, 1) := by decide +kernel
theorem dX7_fail_9 : decode cX7_fail 9 = .ok (.putfield 166, 3) := by decide +kernel
theorem dX7_fail_12 : decode cX7_fail 12 = .ok (.aload_n 0, 1) := by decide +kernel
theorem dX7_fail_13 : decode cX7_fail 13 = .ok (.aload_n 0, 1) := by decide +kernel
theorem dX7_fail_14 : decode cX7_fail 14 = .ok (.getfield 146, 3) := by decide +kernel
theorem dX7_fail_17 : decode cX7_fail 17 = .ok (.putfield 170, 3) := by decide +kernel
theorem dX7_fail_20 : decode cX7_fail 20 = .ok (.return_, 1) := by decide +kernel
theorem dX7_feed_0 : decode cX7_feed 0 = .ok (.iload_n 1, 1) := by decide +kernel
theorem dX7_feed_1 : decode cX7_feed 1 = .ok (.i2l, 1) := by decide +kernel
theorem dX7_feed_2 : decode cX7_feed 2 = .ok (.lconst 0, 1) := by decide +kernel
theorem dX7_feed_3 : decode cX7_feed 3 = .ok (.ldc2_w 128, 3) := by decide +kernel
theorem dX7_feed_6 : decode cX7_feed 6 = .ok (.invokestatic 91, 3) := by decide +kernel
theorem dX7_feed_9 : decode cX7_feed 9 = .ok (.ifCond .ne 6, 3) := by decide +kernel
theorem dX7_feed_12 : decode cX7_feed 12 = .ok (.bipush (-2), 2) := by decide +kernel
theorem dX7_feed_14 : decode cX7_feed 14 = .ok (.ireturn, 1) := by decide +kernel
theorem dX7_feed_15 : decode cX7_feed 15 = .ok (.aload_n 0, 1) := by decide +kernel
theorem dX7_feed_16 : decode cX7_feed 16 = .ok (.getfield 130, 3) := by decide +kernel
theorem dX7_feed_19 : decode cX7_feed 19 = .ok (.sipush 160, 3) := by decide +kernel
theorem dX7_feed_22 : decode cX7_feed 22 = .ok (.if_icmp .ne 6, 3) := by decide +kernel
theorem dX7_feed_25 : decode cX7_feed 25 = .ok (.bipush (-4), 2) := by decide +kernel
theorem dX7_feed_27 : decode cX7_feed 27 = .ok (.ireturn, 1) := by decide +kernel
theorem dX7_feed_28 : decode cX7_feed 28 = .ok (.aload_n 0, 1) := by decide +kernel
theorem dX7_feed_29 : decode cX7_feed 29 = .ok (.getfield 20, 3) := by decide +kernel
theorem dX7_feed_32 : decode cX7_feed 32 = .ok (.aload_n 0, 1) := by decide +kernel
theorem dX7_feed_33 : decode cX7_feed 33 = .ok (.getfield 130, 3) := by decide +kernel
theorem dX7_feed_36 : decode cX7_feed 36 = .ok (.iload_n 1, 1) := by decide +kernel
theorem dX7_feed_37 : decode cX7_feed 37 = .ok (.iastore, 1) := by decide +kernel
theorem dX7_feed_38 : decode cX7_feed 38 = .ok (.aload_n 0, 1) := by decide +kernel
theorem dX7_feed_39 : decode cX7_feed 39 = .ok (.dup, 1) := by decide +kernel
theorem dX7_feed_40 : decode cX7_feed 40 = .ok (.getfield 130, 3) := by decide +kernel
theorem dX7_feed_43 : decode cX7_feed 43 = .ok (.iconst 1, 1) := by decide +kernel
theorem dX7_feed_44 : decode cX7_feed 44 = .ok (.iadd, 1) := by decide +kernel
theorem dX7_feed_45 : decode cX7_feed 45 = .ok (.putfield 130, 3) := by decide +kernel
theorem dX7_feed_48 : decode cX7_feed 48 = .ok (.aload_n 0, 1) := by decide +kernel
theorem dX7_feed_49 : decode cX7_feed 49 = .ok (.getfield 130, 3) := by decide +kernel
theorem dX7_feed_52 : decode cX7_feed 52 = .ok (.ireturn, 1) := by decide +kernel
theorem dX7_film_0 : decode cX7_film 0 = .ok (.iload_n 1, 1) := by decide +kernel
theorem dX7_film_1 : decode cX7_film 1 = .ok (.invokestatic 329, 3) := by decide +kernel
theorem dX7_film_4 : decode cX7_film 4 = .ok (.ifCond .eq 15, 3) := by decide +kernel
theorem dX7_film_7 : decode cX7_film 7 = .ok (.iload_n 2, 1) := by decide +kernel
theorem dX7_film_8 : decode cX7_film 8 = .ok (.i2l, 1) := by decide +kernel
theorem dX7_film_9 : decode cX7_film 9 = .ok (.lconst 0, 1) := by decide +kernel
theorem dX7_film_10 : decode cX7_film 10 = .ok (.ldc2_w 164, 3) := by decide +kernel
theorem dX7_film_13 : decode cX7_film 13 = .ok (.invokestatic 91, 3) := by decide +kernel
theorem dX7_film_16 : decode cX7_film 16 = .ok (.ifCond .ne 6, 3) := by decide +kernel
theorem dX7_film_19 : decode cX7_film 19 = .ok (.bipush (-2), 2) := by decide +kernel
theorem dX7_film_21 : decode cX7_film 21 = .ok (.ireturn, 1) := by decide +kernel
theorem dX7_film_22 : decode cX7_film 22 = .ok (.aload_n 0, 1) := by decide +kernel
theorem dX7_film_23 : decode cX7_film 23 = .ok (.aload_n 0, 1) := by decide +kernel
theorem dX7_film_24 : decode cX7_film 24 = .ok (.invokevirtual 291, 3) := by decide +kernel
theorem dX7_film_27 : decode cX7_film 27 = .ok (.putfield 254, 3) := by decide +kernel
theorem dX7_film_30 : decode cX7_film 30 = .ok (.aload_n 0, 1) := by decide +kernel
theorem dX7_film_31 : decode cX7_film 31 = .ok (.iload_n 1, 1) := by decide +kernel
theorem dX7_film_32 : decode cX7_film 32 = .ok (.iconst 0, 1) := by decide +kernel
theorem dX7_film_33 : decode cX7_film 33 = .ok (.iload_n 2, 1) := by decide +kernel
theorem dX7_film_34 : decode cX7_film 34 = .ok (.invokevirtual 341, 3) := by decide +kernel
theorem dX7_film_37 : decode cX7_film 37 = .ok (.pop, 1) := by decide +kernel
theorem dX7_film_38 : decode cX7_film 38 = .ok (.iconst 0, 1) := by decide +kernel
theorem dX7_film_39 : decode cX7_film 39 = .ok (.istore_n 3, 1) := by decide +kernel
theorem dX7_film_40 : decode cX7_film 40 = .ok (.iload_n 3, 1) := by decide +kernel
theorem dX7_film_41 : decode cX7_film 41 = .ok (.iload_n 2, 1) := by decide +kernel
theorem dX7_film_42 : decode cX7_film 42 = .ok (.if_icmp .ge 25, 3) := by decide +kernel
theorem dX7_film_45 : decode cX7_film 45 = .ok (.aload_n 0, 1) := by decide +kernel
theorem dX7_film_46 : decode cX7_film 46 = .ok (.getfield 78, 3) := by decide +kernel
theorem dX7_film_49 : decode cX7_film 49 = .ok (.bipush 40, 2) := by decide +kernel
theorem dX7_film_51 : decode cX7_film 51 = .ok (.iload_n 1, 1) := by decide +kernel
theorem dX7_film_52 : decode cX7_film 52 = .ok (.imul, 1) := by decide +kernel
theorem dX7_film_53 : decode cX7_film 53 = .ok (.iload_n 3, 1) := by decide +kernel
theorem dX7_film_54 : decode cX7_film 54 = .ok (.iadd, 1) := by decide +kernel
theorem dX7_film_55 : decode cX7_film 55 = .ok (.aload_n 0, 1) := by decide +kernel
theorem dX7_film_56 : decode cX7_film 56 = .ok (.iload_n 3, 1) := by decide +kernel
theorem dX7_film_57 : decode cX7_film 57 = .ok (.invokevirtual 285, 3) := by decide +kernel
theorem dX7_film_60 : decode cX7_film 60 = .ok (.iastore, 1) := by decide +kernel
theorem dX7_film_61 : decode cX7_film 61 = .ok (.iinc 3 1, 3) := by decide +kernel
theorem dX7_film_64 : decode cX7_film 64 = .ok (.goto (-24), 3) := by decide +kernel
theorem dX7_film_67 : decode cX7_film 67 = .ok (.iload_n 2, 1) := by decide +kernel
theorem dX7_film_68 : decode cX7_film 68 = .ok (.ireturn, 1) := by decide +kernel
theorem dX7_floor_0 : decode cX7_floor 0 = .ok (.iload_n 1, 1) := by decide +kernel
theorem dX7_floor_1 : decode cX7_floor 1 = .ok (.i2l, 1) := by decide +kernel
theorem dX7_floor_2 : decode cX7_floor 2 = .ok (.lconst 0, 1) := by decide +kernel
theorem dX7_floor_3 : decode cX7_floor 3 = .ok (.ldc2_w 112, 3) := by decide +kernel
theorem dX7_floor_6 : decode cX7_floor 6 = .ok (.invokestatic 91, 3) := by decide +kernel
theorem dX7_floor_9 : decode cX7_floor 9 = .ok (.ifCond .eq 15, 3) := by decide +kernel
theorem dX7_floor_12 : decode cX7_floor 12 = .ok (.iload_n 2, 1) := by decide +kernel
theorem dX7_floor_13 : decode cX7_floor 13 = .ok (.i2l, 1) := by decide +kernel
theorem dX7_floor_14 : decode cX7_floor 14 = .ok (.lconst 0, 1) := by decide +kernel
theorem dX7_floor_15 : decode cX7_floor 15 = .ok (.ldc2_w 108, 3) := by decide +kernel
theorem dX7_floor_18 : decode cX7_floor 18 = .ok (.invokestatic 91, 3) := by decide +kernel
theorem dX7_floor_21 : decode cX7_floor 21 = .ok (.ifCond .ne 6, 3) := by decide +kernel
theorem dX7_floor_24 : decode cX7_floor 24 = .ok (.bipush (-2), 2) := by decide +kernel
theorem dX7_floor_26 : decode cX7_floor 26 = .ok (.ireturn, 1) := by decide +kernel
theorem dX7_floor_27 : decode cX7_floor 27 = .ok (.aload_n 0, 1) := by decide +kernel
theorem dX7_floor_28 : decode cX7_floor 28 = .ok (.aload_n 0, 1) := by decide +kernel
theorem dX7_floor_29 : decode cX7_floor 29 = .ok (.invokevirtual 291, 3) := by decide +kernel
theorem dX7_floor_32 : decode cX7_floor 32 = .ok (.invokevirtual 294, 3) := by decide +kernel
theorem dX7_floor_35 : decode cX7_floor 35 = .ok (.aload_n 0, 1) := by decide +kernel
theorem dX7_floor_36 : decode cX7_floor 36 = .ok (.iload_n 1, 1) := by decide +kernel
theorem dX7_floor_37 : decode cX7_floor 37 = .ok (.invokevirtual 285, 3) := by decide +kernel
theorem dX7_floor_40 : decode cX7_floor 40 = .ok (.istore_n 3, 1) := by decide +kernel
theorem dX7_floor_41 : decode cX7_floor 41 = .ok (.iload_n 2, 1) := by decide +kernel
theorem dX7_floor_42 : decode cX7_floor 42 = .ok (.iconst 2, 1) := by decide +kernel
theorem dX7_floor_43 : decode cX7_floor 43 = .ok (.if_icmp .ge 18, 3) := by decide +kernel
theorem dX7_floor_46 : decode cX7_floor 46 = .ok (.iload_n 2, 1) := by decide +kernel
theorem dX7_floor_47 : decode cX7_floor 47 = .ok (.ifCond .ne 7, 3) := by decide +kernel
theorem dX7_floor_50 : decode cX7_floor 50 = .ok (.iload_n 3, 1) := by decide +kernel
theorem dX7_floor_51 : decode cX7_floor 51 = .ok (.goto 9, 3) := by decide +kernel
theorem dX7_floor_54 : decode cX7_floor 54 = .ok (.aload_n 0, 1) := by decide +kernel
theorem dX7_floor_55 : decode cX7_floor 55 = .ok (.iload_n 1, 1) := by decide +kernel
theorem dX7_floor_56 : decode cX7_floor 56 = .ok (.iload_n 3, 1) := by decide +kernel
theorem dX7_floor_57 : decode cX7_floor 57 = .ok (.invokevirtual 288, 3) := by decide +kernel
theorem dX7_floor_60 : decode cX7_floor 60 = .ok (.ireturn, 1) := by decide +kernel
theorem dX7_floor_61 : decode cX7_floor 61 = .ok (.iconst 0, 1) := by decide +kernel
theorem dX7_floor_62 : decode cX7_floor 62 = .ok (.istore 4, 2) := by decide +kernel
theorem dX7_floor_64 : decode cX7_floor 64 = .ok (.iconst 0, 1) := by decide +kernel
theorem dX7_floor_65 : decode cX7_floor 65 = .ok (.istore 5, 2) := by decide +kernel
theorem dX7_floor_67 : decode cX7_floor 67 = .ok (.iload 5, 2) := by decide +kernel
theorem dX7_floor_69 : decode cX7_floor 69 = .ok (.aload_n 0, 1) := by decide +kernel
theorem dX7_floor_70 : decode cX7_floor 70 = .ok (.getfield 88, 3) := by decide +kernel
theorem dX7_floor_73 : decode cX7_floor 73 = .ok (.if_icmp .ge 44, 3) := by decide +kernel
theorem dX7_floor_76 : decode cX7_floor 76 = .ok (.iload 4, 2) := by decide +kernel
theorem dX7_floor_78 : decode cX7_floor 78 = .ok (.aload_n 0, 1) := by decide +kernel
theorem dX7_floor_79 : decode cX7_floor 79 = .ok (.getfield 35, 3) := by decide +kernel
theorem dX7_floor_82 : decode cX7_floor 82 = .ok (.iload 5, 2) := by decide +kernel
theorem dX7_floor_84 : decode cX7_floor 84 = .ok (.iaload, 1) := by decide +kernel
theorem dX7_floor_85 : decode cX7_floor 85 = .ok (.iload_n 1, 1) := by decide +kernel
theorem dX7_floor_86 : decode cX7_floor 86 = .ok (.if_icmp .gt 18, 3) := by decide +kernel
theorem dX7_floor_89 : decode cX7_floor 89 = .ok (.aload_n 0, 1) := by decide +kernel
theorem dX7_floor_90 : decode cX7_floor 90 = .ok (.getfield 38, 3) := by decide +kernel
theorem dX7_floor_93 : decode cX7_floor 93 = .ok (.iload 5, 2) := by decide +kernel
theorem dX7_floor_95 : decode cX7_floor 95 = .ok (.iaload, 1) := by decide +kernel
theorem dX7_floor_96 : decode cX7_floor 96 = .ok (.iload_n 1, 1) := by decide +kernel
theorem dX7_floor_97 : decode cX7_floor 97 = .ok (.if_icmp .le 7, 3) := by decide +kernel
theorem dX7_floor_100 : decode cX7_floor 100 = .ok (.iconst 1, 1) := by decide +kernel
theorem dX7_floor_101 : decode cX7_floor 101 = .ok (.goto 4, 3) := by decide +kernel

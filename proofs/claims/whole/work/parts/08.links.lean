set_option maxRecDepth 20000 in
theorem gt_t1 {w : Cond} (i : Nat) (h : tables_1_1[i]? = some w) (hg : goodWord w = true) : w ∈ GT := gt_in (List.mem_append_right _ (show w ∈ tables_1_1 ++ (tables_1_2 ++ (tables_1_3 ++ (tables_1_4 ++ tables_1_5))) from List.mem_append_left _ (List.mem_of_getElem? h))) hg
set_option maxRecDepth 20000 in
theorem gt_t2 {w : Cond} (i : Nat) (h : tables_1_2[i]? = some w) (hg : goodWord w = true) : w ∈ GT := gt_in (List.mem_append_right _ (show w ∈ tables_1_1 ++ (tables_1_2 ++ (tables_1_3 ++ (tables_1_4 ++ tables_1_5))) from List.mem_append_right _ (List.mem_append_left _ (List.mem_of_getElem? h)))) hg
set_option maxRecDepth 20000 in
theorem gt_t3 {w : Cond} (i : Nat) (h : tables_1_3[i]? = some w) (hg : goodWord w = true) : w ∈ GT := gt_in (List.mem_append_right _ (show w ∈ tables_1_1 ++ (tables_1_2 ++ (tables_1_3 ++ (tables_1_4 ++ tables_1_5))) from List.mem_append_right _ (List.mem_append_right _ (List.mem_append_left _ (List.mem_of_getElem? h))))) hg
set_option maxRecDepth 20000 in
theorem gt_t4 {w : Cond} (i : Nat) (h : tables_1_4[i]? = some w) (hg : goodWord w = true) : w ∈ GT := gt_in (List.mem_append_right _ (show w ∈ tables_1_1 ++ (tables_1_2 ++ (tables_1_3 ++ (tables_1_4 ++ tables_1_5))) from List.mem_append_right _ (List.mem_append_right _ (List.mem_append_right _ (List.mem_append_left _ (List.mem_of_getElem? h)))))) hg
set_option maxRecDepth 20000 in
theorem gt_t5 {w : Cond} (i : Nat) (h : tables_1_5[i]? = some w) (hg : goodWord w = true) : w ∈ GT := gt_in (List.mem_append_right _ (show w ∈ tables_1_1 ++ (tables_1_2 ++ (tables_1_3 ++ (tables_1_4 ++ tables_1_5))) from List.mem_append_right _ (List.mem_append_right _ (List.mem_append_right _ (List.mem_append_right _ (List.mem_of_getElem? h)))))) hg
set_option maxRecDepth 20000 in
theorem inX0 : ∀ w ∈ u_ws RX0 TX0 10, w ∈ GT := by
  intro w hw
  have h : (u_ws RX0 TX0 10) = [60, 62, 64, 66, 68, 70, 72, 74, 76, 78].filterMap (fun i => tables_1[i]?) := by decide +kernel
  have hg : (u_ws RX0 TX0 10).all goodWord = true := by decide +kernel
  have hg1 := List.all_eq_true.mp hg w hw
  rw [h] at hw
  obtain ⟨i, -, hi⟩ := List.mem_filterMap.mp hw
  exact gt_tb i hi hg1
set_option maxRecDepth 20000 in
theorem nfX0 : ∀ k, k < 10 → xft 0 k ≠ .float ∧ xft 0 k ≠ .double := by decide +kernel
set_option maxRecDepth 20000 in
theorem tyX0_x : ∀ k, k < 10 → parseFieldDescriptor (TX0 k).2.2.1 = some (xft 0 k) := tyX0_ok
set_option maxRecDepth 20000 in
theorem inX1 : ∀ w ∈ u_ws RX1 TX1 9, w ∈ GT := by
  intro w hw
  have h : (u_ws RX1 TX1 9) = [100, 102, 104, 106, 108, 110, 112, 114, 116].filterMap (fun i => tables_1[i]?) := by decide +kernel
  have hg : (u_ws RX1 TX1 9).all goodWord = true := by decide +kernel
  have hg1 := List.all_eq_true.mp hg w hw
  rw [h] at hw
  obtain ⟨i, -, hi⟩ := List.mem_filterMap.mp hw
  exact gt_tb i hi hg1
set_option maxRecDepth 20000 in
theorem nfX1 : ∀ k, k < 9 → xft 1 k ≠ .float ∧ xft 1 k ≠ .double := by decide +kernel
set_option maxRecDepth 20000 in
theorem tyX1_x : ∀ k, k < 9 → parseFieldDescriptor (TX1 k).2.2.1 = some (xft 1 k) := tyX1_ok
set_option maxRecDepth 20000 in
theorem inX2 : ∀ w ∈ u_ws RX2 TX2 4, w ∈ GT := by
  intro w hw
  have h : (u_ws RX2 TX2 4) = [178, 180, 182, 184].filterMap (fun i => tables_1[i]?) := by decide +kernel
  have hg : (u_ws RX2 TX2 4).all goodWord = true := by decide +kernel
  have hg1 := List.all_eq_true.mp hg w hw
  rw [h] at hw
  obtain ⟨i, -, hi⟩ := List.mem_filterMap.mp hw
  exact gt_tb i hi hg1
set_option maxRecDepth 20000 in
theorem nfX2 : ∀ k, k < 4 → xft 2 k ≠ .float ∧ xft 2 k ≠ .double := by decide +kernel
set_option maxRecDepth 20000 in
theorem tyX2_x : ∀ k, k < 4 → parseFieldDescriptor (TX2 k).2.2.1 = some (xft 2 k) := tyX2_ok
set_option maxRecDepth 20000 in
theorem inX3 : ∀ w ∈ u_ws RX3 TX3 3, w ∈ GT := by
  intro w hw
  have h : (u_ws RX3 TX3 3) = [210, 212, 214].filterMap (fun i => tables_1[i]?) := by decide +kernel
  have hg : (u_ws RX3 TX3 3).all goodWord = true := by decide +kernel
  have hg1 := List.all_eq_true.mp hg w hw
  rw [h] at hw
  obtain ⟨i, -, hi⟩ := List.mem_filterMap.mp hw
  exact gt_tb i hi hg1
set_option maxRecDepth 20000 in
theorem nfX3 : ∀ k, k < 3 → xft 3 k ≠ .float ∧ xft 3 k ≠ .double := by decide +kernel
set_option maxRecDepth 20000 in
theorem tyX3_x : ∀ k, k < 3 → parseFieldDescriptor (TX3 k).2.2.1 = some (xft 3 k) := tyX3_ok
set_option maxRecDepth 20000 in
theorem inX4 : ∀ w ∈ u_ws RX4 TX4 2, w ∈ GT := by
  intro w hw
  have h : (u_ws RX4 TX4 2) = [194, 196].filterMap (fun i => tables_1[i]?) := by decide +kernel
  have hg : (u_ws RX4 TX4 2).all goodWord = true := by decide +kernel
  have hg1 := List.all_eq_true.mp hg w hw
  rw [h] at hw
  obtain ⟨i, -, hi⟩ := List.mem_filterMap.mp hw
  exact gt_tb i hi hg1
set_option maxRecDepth 20000 in
theorem nfX4 : ∀ k, k < 2 → xft 4 k ≠ .float ∧ xft 4 k ≠ .double := by decide +kernel
set_option maxRecDepth 20000 in
theorem tyX4_x : ∀ k, k < 2 → parseFieldDescriptor (TX4 k).2.2.1 = some (xft 4 k) := tyX4_ok
set_option maxRecDepth 20000 in
theorem inX5 : ∀ w ∈ u_ws RX5 TX5 10, w ∈ GT := by
  intro w hw
  have h : (u_ws RX5 TX5 10) = [143, 145, 147, 149, 151, 153, 155, 157, 159, 161].filterMap (fun i => tables_1[i]?) := by decide +kernel
  have hg : (u_ws RX5 TX5 10).all goodWord = true := by decide +kernel
  have hg1 := List.all_eq_true.mp hg w hw
  rw [h] at hw
  obtain ⟨i, -, hi⟩ := List.mem_filterMap.mp hw
  exact gt_tb i hi hg1
set_option maxRecDepth 20000 in
theorem nfX5 : ∀ k, k < 10 → xft 5 k ≠ .float ∧ xft 5 k ≠ .double := by decide +kernel
set_option maxRecDepth 20000 in
theorem tyX5_x : ∀ k, k < 10 → parseFieldDescriptor (TX5 k).2.2.1 = some (xft 5 k) := tyX5_ok
set_option maxRecDepth 20000 in
theorem inX6 : ∀ w ∈ u_ws RX6 TX6 9, w ∈ GT := by
  intro w hw
  have h : (u_ws RX6 TX6 9) = [226, 228, 230, 232, 234, 236, 238, 240, 242].filterMap (fun i => tables_1[i]?) := by decide +kernel
  have hg : (u_ws RX6 TX6 9).all goodWord = true := by decide +kernel
  have hg1 := List.all_eq_true.mp hg w hw
  rw [h] at hw
  obtain ⟨i, -, hi⟩ := List.mem_filterMap.mp hw
  exact gt_tb i hi hg1
set_option maxRecDepth 20000 in
theorem nfX6 : ∀ k, k < 9 → xft 6 k ≠ .float ∧ xft 6 k ≠ .double := by decide +kernel
set_option maxRecDepth 20000 in
theorem tyX6_x : ∀ k, k < 9 → parseFieldDescriptor (TX6 k).2.2.1 = some (xft 6 k) := tyX6_ok
set_option maxRecDepth 20000 in
theorem inX7 : ∀ w ∈ u_ws RX7 TX7 49, w ∈ GT := by
  intro w hw
  have h : (u_ws RX7 TX7 49) = [767, 769, 771, 773, 775, 777, 779, 781, 783, 785, 787, 789, 791, 793, 795, 797, 799, 801, 803, 805, 807, 809, 811, 813, 815, 817, 819, 821, 823, 825, 827, 829, 831, 833, 835, 837, 839, 841, 843, 845, 847, 849, 851, 853, 855, 857, 859, 861, 863].filterMap (fun i => tables_1[i]?) := by decide +kernel
  have hg : (u_ws RX7 TX7 49).all goodWord = true := by decide +kernel
  have hg1 := List.all_eq_true.mp hg w hw
  rw [h] at hw
  obtain ⟨i, -, hi⟩ := List.mem_filterMap.mp hw
  exact gt_tb i hi hg1
set_option maxRecDepth 20000 in
theorem nfX7 : ∀ k, k < 49 → xft 7 k ≠ .float ∧ xft 7 k ≠ .double := by decide +kernel
set_option maxRecDepth 20000 in
theorem tyX7_x : ∀ k, k < 49 → parseFieldDescriptor (TX7 k).2.2.1 = some (xft 7 k) := tyX7_ok
set_option maxRecDepth 20000 in
theorem f_X0_9 : XF RX0 9 0 10 0 true (.array .int) := ⟨RX0, TX0, rfl, by decide, gt_t1 31 rfl rfl, inX0, tyX0_x, nmX0, rfl, rfl, by decide, rfl⟩
set_option maxRecDepth 20000 in
theorem f_X6_101 : XF RX6 101 0 10 0 true (.array .int) := ⟨RX0, TX0, rfl, by decide, gt_t1 32 rfl rfl, inX0, tyX0_x, nmX0, rfl, rfl, by decide, rfl⟩
set_option maxRecDepth 20000 in
theorem f_X0_15 : XF RX0 15 0 10 1 true (.array .int) := ⟨RX0, TX0, rfl, by decide, gt_t1 33 rfl rfl, inX0, tyX0_x, nmX0, rfl, rfl, by decide, rfl⟩
set_option maxRecDepth 20000 in
theorem f_X6_104 : XF RX6 104 0 10 1 true (.array .int) := ⟨RX0, TX0, rfl, by decide, gt_t1 34 rfl rfl, inX0, tyX0_x, nmX0, rfl, rfl, by decide, rfl⟩
set_option maxRecDepth 20000 in
theorem f_X5_119 : XF RX5 119 0 10 1 true (.array .int) := ⟨RX0, TX0, rfl, by decide, gt_t1 35 rfl rfl, inX0, tyX0_x, nmX0, rfl, rfl, by decide, rfl⟩
set_option maxRecDepth 20000 in
theorem f_X0_18 : XF RX0 18 0 10 2 true (.array .int) := ⟨RX0, TX0, rfl, by decide, gt_t1 36 rfl rfl, inX0, tyX0_x, nmX0, rfl, rfl, by decide, rfl⟩
set_option maxRecDepth 20000 in
theorem f_X6_87 : XF RX6 87 0 10 2 true (.array .int) := ⟨RX0, TX0, rfl, by decide, gt_t1 37 rfl rfl, inX0, tyX0_x, nmX0, rfl, rfl, by decide, rfl⟩
set_option maxRecDepth 20000 in
theorem f_X5_82 : XF RX5 82 0 10 2 true (.array .int) := ⟨RX0, TX0, rfl, by decide, gt_t1 38 rfl rfl, inX0, tyX0_x, nmX0, rfl, rfl, by decide, rfl⟩
set_option maxRecDepth 20000 in
theorem f_X0_21 : XF RX0 21 0 10 3 true (.array .int) := ⟨RX0, TX0, rfl, by decide, gt_t1 39 rfl rfl, inX0, tyX0_x, nmX0, rfl, rfl, by decide, rfl⟩
set_option maxRecDepth 20000 in
theorem f_X5_67 : XF RX5 67 0 10 3 true (.array .int) := ⟨RX0, TX0, rfl, by decide, gt_t1 40 rfl rfl, inX0, tyX0_x, nmX0, rfl, rfl, by decide, rfl⟩
set_option maxRecDepth 20000 in
theorem f_X6_107 : XF RX6 107 0 10 3 true (.array .int) := ⟨RX0, TX0, rfl, by decide, gt_t1 41 rfl rfl, inX0, tyX0_x, nmX0, rfl, rfl, by decide, rfl⟩
set_option maxRecDepth 20000 in
theorem f_X0_24 : XF RX0 24 0 10 4 true (.array .int) := ⟨RX0, TX0, rfl, by decide, gt_t1 42 rfl rfl, inX0, tyX0_x, nmX0, rfl, rfl, by decide, rfl⟩
set_option maxRecDepth 20000 in
theorem f_X5_70 : XF RX5 70 0 10 4 true (.array .int) := ⟨RX0, TX0, rfl, by decide, gt_t1 43 rfl rfl, inX0, tyX0_x, nmX0, rfl, rfl, by decide, rfl⟩
set_option maxRecDepth 20000 in
theorem f_X6_110 : XF RX6 110 0 10 4 true (.array .int) := ⟨RX0, TX0, rfl, by decide, gt_t1 44 rfl rfl, inX0, tyX0_x, nmX0, rfl, rfl, by decide, rfl⟩
set_option maxRecDepth 20000 in
theorem f_X0_27 : XF RX0 27 0 10 5 true (.array .int) := ⟨RX0, TX0, rfl, by decide, gt_t1 45 rfl rfl, inX0, tyX0_x, nmX0, rfl, rfl, by decide, rfl⟩
set_option maxRecDepth 20000 in
theorem f_X2_58 : XF RX2 58 0 10 5 true (.array .int) := ⟨RX0, TX0, rfl, by decide, gt_t1 46 rfl rfl, inX0, tyX0_x, nmX0, rfl, rfl, by decide, rfl⟩
set_option maxRecDepth 20000 in
theorem f_X5_79 : XF RX5 79 0 10 5 true (.array .int) := ⟨RX0, TX0, rfl, by decide, gt_t1 47 rfl rfl, inX0, tyX0_x, nmX0, rfl, rfl, by decide, rfl⟩
set_option maxRecDepth 20000 in
theorem f_X6_113 : XF RX6 113 0 10 5 true (.array .int) := ⟨RX0, TX0, rfl, by decide, gt_t1 48 rfl rfl, inX0, tyX0_x, nmX0, rfl, rfl, by decide, rfl⟩
set_option maxRecDepth 20000 in
theorem f_X0_30 : XF RX0 30 0 10 6 true (.array .int) := ⟨RX0, TX0, rfl, by decide, gt_t1 49 rfl rfl, inX0, tyX0_x, nmX0, rfl, rfl, by decide, rfl⟩
set_option maxRecDepth 20000 in
theorem f_X6_116 : XF RX6 116 0 10 6 true (.array .int) := ⟨RX0, TX0, rfl, by decide, gt_t1 50 rfl rfl, inX0, tyX0_x, nmX0, rfl, rfl, by decide, rfl⟩
set_option maxRecDepth 20000 in
theorem f_X5_53 : XF RX5 53 0 10 7 false .int := ⟨RX0, TX0, rfl, by decide, gt_t1 51 rfl rfl, inX0, tyX0_x, nmX0, rfl, rfl, by decide, rfl⟩
set_option maxRecDepth 20000 in
theorem f_X0_47 : XF RX0 47 0 10 7 false .int := ⟨RX0, TX0, rfl, by decide, gt_t1 52 rfl rfl, inX0, tyX0_x, nmX0, rfl, rfl, by decide, rfl⟩
set_option maxRecDepth 20000 in
theorem f_X2_51 : XF RX2 51 0 10 7 false .int := ⟨RX0, TX0, rfl, by decide, gt_t1 53 rfl rfl, inX0, tyX0_x, nmX0, rfl, rfl, by decide, rfl⟩
set_option maxRecDepth 20000 in
theorem f_X6_98 : XF RX6 98 0 10 7 false .int := ⟨RX0, TX0, rfl, by decide, gt_t1 54 rfl rfl, inX0, tyX0_x, nmX0, rfl, rfl, by decide, rfl⟩
set_option maxRecDepth 20000 in
theorem f_X0_33 : XF RX0 33 0 10 8 false .int := ⟨RX0, TX0, rfl, by decide, gt_t1 55 rfl rfl, inX0, tyX0_x, nmX0, rfl, rfl, by decide, rfl⟩
set_option maxRecDepth 20000 in
theorem f_X5_93 : XF RX5 93 0 10 8 false .int := ⟨RX0, TX0, rfl, by decide, gt_t1 56 rfl rfl, inX0, tyX0_x, nmX0, rfl, rfl, by decide, rfl⟩
set_option maxRecDepth 20000 in
theorem f_X6_122 : XF RX6 122 0 10 8 false .int := ⟨RX0, TX0, rfl, by decide, gt_t1 57 rfl rfl, inX0, tyX0_x, nmX0, rfl, rfl, by decide, rfl⟩
set_option maxRecDepth 20000 in
theorem f_X0_50 : XF RX0 50 0 10 9 false .int := ⟨RX0, TX0, rfl, by decide, gt_t1 58 rfl rfl, inX0, tyX0_x, nmX0, rfl, rfl, by decide, rfl⟩
set_option maxRecDepth 20000 in
theorem f_X6_142 : XF RX6 142 0 10 9 false .int := ⟨RX0, TX0, rfl, by decide, gt_t1 59 rfl rfl, inX0, tyX0_x, nmX0, rfl, rfl, by decide, rfl⟩
set_option maxRecDepth 20000 in
theorem f_X1_9 : XF RX1 9 1 9 0 true (.array .int) := ⟨RX1, TX1, rfl, by decide, gt_t1 88 rfl rfl, inX1, tyX1_x, nmX1, rfl, rfl, by decide, rfl⟩
set_option maxRecDepth 20000 in
theorem f_X6_128 : XF RX6 128 1 9 0 true (.array .int) := ⟨RX1, TX1, rfl, by decide, gt_t1 89 rfl rfl, inX1, tyX1_x, nmX1, rfl, rfl, by decide, rfl⟩
set_option maxRecDepth 20000 in
theorem f_X1_72 : XF RX1 72 1 9 1 false .int := ⟨RX1, TX1, rfl, by decide, gt_t1 90 rfl rfl, inX1, tyX1_x, nmX1, rfl, rfl, by decide, rfl⟩
set_option maxRecDepth 20000 in
theorem f_X6_125 : XF RX6 125 1 9 1 false .int := ⟨RX1, TX1, rfl, by decide, gt_t1 91 rfl rfl, inX1, tyX1_x, nmX1, rfl, rfl, by decide, rfl⟩
set_option maxRecDepth 20000 in
theorem f_X1_75 : XF RX1 75 1 9 2 false .int := ⟨RX1, TX1, rfl, by decide, gt_t1 92 rfl rfl, inX1, tyX1_x, nmX1, rfl, rfl, by decide, rfl⟩
set_option maxRecDepth 20000 in
theorem f_X6_135 : XF RX6 135 1 9 2 false .int := ⟨RX1, TX1, rfl, by decide, gt_t1 93 rfl rfl, inX1, tyX1_x, nmX1, rfl, rfl, by decide, rfl⟩
set_option maxRecDepth 20000 in
theorem f_X1_21 : XF RX1 21 1 9 3 false .int := ⟨RX1, TX1, rfl, by decide, gt_t1 94 rfl rfl, inX1, tyX1_x, nmX1, rfl, rfl, by decide, rfl⟩
set_option maxRecDepth 20000 in
theorem f_X1_39 : XF RX1 39 1 9 4 false .int := ⟨RX1, TX1, rfl, by decide, gt_t1 95 rfl rfl, inX1, tyX1_x, nmX1, rfl, rfl, by decide, rfl⟩
set_option maxRecDepth 20000 in
theorem f_X1_69 : XF RX1 69 1 9 5 false .int := ⟨RX1, TX1, rfl, by decide, gt_t1 96 rfl rfl, inX1, tyX1_x, nmX1, rfl, rfl, by decide, rfl⟩
set_option maxRecDepth 20000 in
theorem f_X1_15 : XF RX1 15 1 9 6 true (.array .int) := ⟨RX1, TX1, rfl, by decide, gt_t1 97 rfl rfl, inX1, tyX1_x, nmX1, rfl, rfl, by decide, rfl⟩
set_option maxRecDepth 20000 in
theorem f_X1_25 : XF RX1 25 1 9 7 false .int := ⟨RX1, TX1, rfl, by decide, gt_t1 98 rfl rfl, inX1, tyX1_x, nmX1, rfl, rfl, by decide, rfl⟩
set_option maxRecDepth 20000 in
theorem f_X1_18 : XF RX1 18 1 9 8 true (.array .int) := ⟨RX1, TX1, rfl, by decide, gt_t1 99 rfl rfl, inX1, tyX1_x, nmX1, rfl, rfl, by decide, rfl⟩
set_option maxRecDepth 20000 in
theorem f_X5_12 : XF RX5 12 5 10 0 true (.object "GetsOutFirst$Crew") := ⟨RX5, TX5, rfl, by decide, gt_t1 131 rfl rfl, inX5, tyX5_x, nmX5, rfl, rfl, by decide, rfl⟩
set_option maxRecDepth 20000 in
theorem f_X2_26 : XF RX2 26 5 10 0 true (.object "GetsOutFirst$Crew") := ⟨RX5, TX5, rfl, by decide, gt_t1 132 rfl rfl, inX5, tyX5_x, nmX5, rfl, rfl, by decide, rfl⟩
set_option maxRecDepth 20000 in
theorem f_X6_181 : XF RX6 181 5 10 0 true (.object "GetsOutFirst$Crew") := ⟨RX5, TX5, rfl, by decide, gt_t1 133 rfl rfl, inX5, tyX5_x, nmX5, rfl, rfl, by decide, rfl⟩
set_option maxRecDepth 20000 in
theorem f_X5_49 : XF RX5 49 5 10 1 false (.object "GetsOutFirst$Text") := ⟨RX5, TX5, rfl, by decide, gt_t1 134 rfl rfl, inX5, tyX5_x, nmX5, rfl, rfl, by decide, rfl⟩
set_option maxRecDepth 20000 in
theorem f_X5_18 : XF RX5 18 5 10 2 true (.array .int) := ⟨RX5, TX5, rfl, by decide, gt_t1 135 rfl rfl, inX5, tyX5_x, nmX5, rfl, rfl, by decide, rfl⟩
set_option maxRecDepth 20000 in
theorem f_X5_22 : XF RX5 22 5 10 3 true (.array .int) := ⟨RX5, TX5, rfl, by decide, gt_t1 136 rfl rfl, inX5, tyX5_x, nmX5, rfl, rfl, by decide, rfl⟩
set_option maxRecDepth 20000 in
theorem f_X5_25 : XF RX5 25 5 10 4 true (.array .int) := ⟨RX5, TX5, rfl, by decide, gt_t1 137 rfl rfl, inX5, tyX5_x, nmX5, rfl, rfl, by decide, rfl⟩
set_option maxRecDepth 20000 in
theorem f_X5_28 : XF RX5 28 5 10 5 true (.array .int) := ⟨RX5, TX5, rfl, by decide, gt_t1 138 rfl rfl, inX5, tyX5_x, nmX5, rfl, rfl, by decide, rfl⟩
set_option maxRecDepth 20000 in
theorem f_X5_31 : XF RX5 31 5 10 6 true (.array .int) := ⟨RX5, TX5, rfl, by decide, gt_t1 139 rfl rfl, inX5, tyX5_x, nmX5, rfl, rfl, by decide, rfl⟩
set_option maxRecDepth 20000 in
theorem f_X5_34 : XF RX5 34 5 10 7 true (.array .int) := ⟨RX5, TX5, rfl, by decide, gt_t1 140 rfl rfl, inX5, tyX5_x, nmX5, rfl, rfl, by decide, rfl⟩
set_option maxRecDepth 20000 in
theorem f_X5_39 : XF RX5 39 5 10 8 true (.array .int) := ⟨RX5, TX5, rfl, by decide, gt_t1 141 rfl rfl, inX5, tyX5_x, nmX5, rfl, rfl, by decide, rfl⟩
set_option maxRecDepth 20000 in
theorem f_X5_42 : XF RX5 42 5 10 9 true (.array .int) := ⟨RX5, TX5, rfl, by decide, gt_t1 142 rfl rfl, inX5, tyX5_x, nmX5, rfl, rfl, by decide, rfl⟩
set_option maxRecDepth 20000 in
theorem f_X2_12 : XF RX2 12 2 4 0 true (.object "GetsOutFirst$Crew") := ⟨RX2, TX2, rfl, by decide, gt_t1 172 rfl rfl, inX2, tyX2_x, nmX2, rfl, rfl, by decide, rfl⟩
set_option maxRecDepth 20000 in
theorem f_X2_22 : XF RX2 22 2 4 1 false .boolean := ⟨RX2, TX2, rfl, by decide, gt_t1 173 rfl rfl, inX2, tyX2_x, nmX2, rfl, rfl, by decide, rfl⟩
set_option maxRecDepth 20000 in
theorem f_X2_43 : XF RX2 43 2 4 2 false .int := ⟨RX2, TX2, rfl, by decide, gt_t1 174 rfl rfl, inX2, tyX2_x, nmX2, rfl, rfl, by decide, rfl⟩
set_option maxRecDepth 20000 in
theorem f_X6_175 : XF RX6 175 2 4 2 false .int := ⟨RX2, TX2, rfl, by decide, gt_t1 175 rfl rfl, inX2, tyX2_x, nmX2, rfl, rfl, by decide, rfl⟩
set_option maxRecDepth 20000 in
theorem f_X2_18 : XF RX2 18 2 4 3 true (.array .int) := ⟨RX2, TX2, rfl, by decide, gt_t1 176 rfl rfl, inX2, tyX2_x, nmX2, rfl, rfl, by decide, rfl⟩
set_option maxRecDepth 20000 in
theorem f_X6_178 : XF RX6 178 2 4 3 true (.array .int) := ⟨RX2, TX2, rfl, by decide, gt_t1 177 rfl rfl, inX2, tyX2_x, nmX2, rfl, rfl, by decide, rfl⟩
set_option maxRecDepth 20000 in
theorem f_X4_9 : XF RX4 9 4 2 0 true (.array .int) := ⟨RX4, TX4, rfl, by decide, gt_t1 192 rfl rfl, inX4, tyX4_x, nmX4, rfl, rfl, by decide, rfl⟩
set_option maxRecDepth 20000 in
theorem f_X4_15 : XF RX4 15 4 2 1 true (.array .int) := ⟨RX4, TX4, rfl, by decide, gt_t1 193 rfl rfl, inX4, tyX4_x, nmX4, rfl, rfl, by decide, rfl⟩
set_option maxRecDepth 20000 in
theorem f_X3_9 : XF RX3 9 3 3 0 true (.array .int) := ⟨RX3, TX3, rfl, by decide, gt_t1 204 rfl rfl, inX3, tyX3_x, nmX3, rfl, rfl, by decide, rfl⟩
set_option maxRecDepth 20000 in
theorem f_X6_232 : XF RX6 232 3 3 0 true (.array .int) := ⟨RX3, TX3, rfl, by decide, gt_t1 205 rfl rfl, inX3, tyX3_x, nmX3, rfl, rfl, by decide, rfl⟩
set_option maxRecDepth 20000 in
theorem f_X3_19 : XF RX3 19 3 3 1 false .int := ⟨RX3, TX3, rfl, by decide, gt_t1 206 rfl rfl, inX3, tyX3_x, nmX3, rfl, rfl, by decide, rfl⟩
set_option maxRecDepth 20000 in
theorem f_X6_248 : XF RX6 248 3 3 1 false .int := ⟨RX3, TX3, rfl, by decide, gt_t1 207 rfl rfl, inX3, tyX3_x, nmX3, rfl, rfl, by decide, rfl⟩
set_option maxRecDepth 20000 in
theorem f_X3_15 : XF RX3 15 3 3 2 false .int := ⟨RX3, TX3, rfl, by decide, gt_t1 208 rfl rfl, inX3, tyX3_x, nmX3, rfl, rfl, by decide, rfl⟩
set_option maxRecDepth 20000 in
theorem f_X6_253 : XF RX6 253 3 3 2 false .int := ⟨RX3, TX3, rfl, by decide, gt_t1 209 rfl rfl, inX3, tyX3_x, nmX3, rfl, rfl, by decide, rfl⟩
set_option maxRecDepth 20000 in
theorem f_X6_10 : XF RX6 10 6 9 0 true (.object "GetsOutFirst$Crew") := ⟨RX6, TX6, rfl, by decide, gt_t1 217 rfl rfl, inX6, tyX6_x, nmX6, rfl, rfl, by decide, rfl⟩
set_option maxRecDepth 20000 in
theorem f_X6_16 : XF RX6 16 6 9 1 true (.object "GetsOutFirst$Crew") := ⟨RX6, TX6, rfl, by decide, gt_t1 218 rfl rfl, inX6, tyX6_x, nmX6, rfl, rfl, by decide, rfl⟩
set_option maxRecDepth 20000 in
theorem f_X6_241 : XF RX6 241 6 9 2 false .boolean := ⟨RX6, TX6, rfl, by decide, gt_t1 219 rfl rfl, inX6, tyX6_x, nmX6, rfl, rfl, by decide, rfl⟩
set_option maxRecDepth 20000 in
theorem f_X6_22 : XF RX6 22 6 9 3 true (.object "GetsOutFirst$Reader") := ⟨RX6, TX6, rfl, by decide, gt_t1 220 rfl rfl, inX6, tyX6_x, nmX6, rfl, rfl, by decide, rfl⟩
set_option maxRecDepth 20000 in
theorem f_X6_28 : XF RX6 28 6 9 4 true (.array (.object "GetsOutFirst$Text")) := ⟨RX6, TX6, rfl, by decide, gt_t1 221 rfl rfl, inX6, tyX6_x, nmX6, rfl, rfl, by decide, rfl⟩
set_option maxRecDepth 20000 in
theorem f_X6_55 : XF RX6 55 6 9 5 false .int := ⟨RX6, TX6, rfl, by decide, gt_t1 222 rfl rfl, inX6, tyX6_x, nmX6, rfl, rfl, by decide, rfl⟩
set_option maxRecDepth 20000 in
theorem f_X6_34 : XF RX6 34 6 9 6 true (.array (.object "GetsOutFirst$Sheet")) := ⟨RX6, TX6, rfl, by decide, gt_t1 223 rfl rfl, inX6, tyX6_x, nmX6, rfl, rfl, by decide, rfl⟩
set_option maxRecDepth 20000 in
theorem f_X6_41 : XF RX6 41 6 9 7 true (.object "GetsOutFirst$Trip") := ⟨RX6, TX6, rfl, by decide, gt_t1 224 rfl rfl, inX6, tyX6_x, nmX6, rfl, rfl, by decide, rfl⟩
set_option maxRecDepth 20000 in
theorem f_X6_48 : XF RX6 48 6 9 8 true (.object "GetsOutFirst$Seeker") := ⟨RX6, TX6, rfl, by decide, gt_t1 225 rfl rfl, inX6, tyX6_x, nmX6, rfl, rfl, by decide, rfl⟩
set_option maxRecDepth 20000 in
theorem f_X7_13 : XF RX7 13 7 49 1 true (.array .int) := ⟨RX7, TX7, rfl, by decide, gt_t3 239 rfl rfl, inX7, tyX7_x, nmX7, rfl, rfl, by decide, rfl⟩
set_option maxRecDepth 20000 in
theorem f_X7_17 : XF RX7 17 7 49 2 true (.array .int) := ⟨RX7, TX7, rfl, by decide, gt_t4 0 rfl rfl, inX7, tyX7_x, nmX7, rfl, rfl, by decide, rfl⟩
set_option maxRecDepth 20000 in
theorem f_X7_85 : XF RX7 85 7 49 3 false .int := ⟨RX7, TX7, rfl, by decide, gt_t4 1 rfl rfl, inX7, tyX7_x, nmX7, rfl, rfl, by decide, rfl⟩
set_option maxRecDepth 20000 in
theorem f_X7_247 : XF RX7 247 7 49 4 false .int := ⟨RX7, TX7, rfl, by decide, gt_t4 2 rfl rfl, inX7, tyX7_x, nmX7, rfl, rfl, by decide, rfl⟩
set_option maxRecDepth 20000 in
theorem f_X7_20 : XF RX7 20 7 49 5 true (.array .int) := ⟨RX7, TX7, rfl, by decide, gt_t4 3 rfl rfl, inX7, tyX7_x, nmX7, rfl, rfl, by decide, rfl⟩
set_option maxRecDepth 20000 in
theorem f_X7_130 : XF RX7 130 7 49 6 false .int := ⟨RX7, TX7, rfl, by decide, gt_t4 4 rfl rfl, inX7, tyX7_x, nmX7, rfl, rfl, by decide, rfl⟩
set_option maxRecDepth 20000 in
theorem f_X7_23 : XF RX7 23 7 49 7 false .int := ⟨RX7, TX7, rfl, by decide, gt_t4 5 rfl rfl, inX7, tyX7_x, nmX7, rfl, rfl, by decide, rfl⟩
set_option maxRecDepth 20000 in
theorem f_X7_26 : XF RX7 26 7 49 8 true (.array .int) := ⟨RX7, TX7, rfl, by decide, gt_t4 6 rfl rfl, inX7, tyX7_x, nmX7, rfl, rfl, by decide, rfl⟩
set_option maxRecDepth 20000 in
theorem f_X7_29 : XF RX7 29 7 49 9 true (.array .int) := ⟨RX7, TX7, rfl, by decide, gt_t4 7 rfl rfl, inX7, tyX7_x, nmX7, rfl, rfl, by decide, rfl⟩
set_option maxRecDepth 20000 in
theorem f_X7_32 : XF RX7 32 7 49 10 true (.array .int) := ⟨RX7, TX7, rfl, by decide, gt_t4 8 rfl rfl, inX7, tyX7_x, nmX7, rfl, rfl, by decide, rfl⟩
set_option maxRecDepth 20000 in
theorem f_X7_35 : XF RX7 35 7 49 11 true (.array .int) := ⟨RX7, TX7, rfl, by decide, gt_t4 9 rfl rfl, inX7, tyX7_x, nmX7, rfl, rfl, by decide, rfl⟩
set_option maxRecDepth 20000 in
theorem f_X7_38 : XF RX7 38 7 49 12 true (.array .int) := ⟨RX7, TX7, rfl, by decide, gt_t4 10 rfl rfl, inX7, tyX7_x, nmX7, rfl, rfl, by decide, rfl⟩
set_option maxRecDepth 20000 in
theorem f_X7_41 : XF RX7 41 7 49 13 true (.array .int) := ⟨RX7, TX7, rfl, by decide, gt_t4 11 rfl rfl, inX7, tyX7_x, nmX7, rfl, rfl, by decide, rfl⟩
set_option maxRecDepth 20000 in
theorem f_X7_44 : XF RX7 44 7 49 14 true (.array .int) := ⟨RX7, TX7, rfl, by decide, gt_t4 12 rfl rfl, inX7, tyX7_x, nmX7, rfl, rfl, by decide, rfl⟩
set_option maxRecDepth 20000 in
theorem f_X7_88 : XF RX7 88 7 49 15 false .int := ⟨RX7, TX7, rfl, by decide, gt_t4 13 rfl rfl, inX7, tyX7_x, nmX7, rfl, rfl, by decide, rfl⟩
set_option maxRecDepth 20000 in
theorem f_X7_189 : XF RX7 189 7 49 16 false .int := ⟨RX7, TX7, rfl, by decide, gt_t4 14 rfl rfl, inX7, tyX7_x, nmX7, rfl, rfl, by decide, rfl⟩
set_option maxRecDepth 20000 in
theorem f_X7_192 : XF RX7 192 7 49 17 false .int := ⟨RX7, TX7, rfl, by decide, gt_t4 15 rfl rfl, inX7, tyX7_x, nmX7, rfl, rfl, by decide, rfl⟩
set_option maxRecDepth 20000 in
theorem f_X7_195 : XF RX7 195 7 49 18 false .int := ⟨RX7, TX7, rfl, by decide, gt_t4 16 rfl rfl, inX7, tyX7_x, nmX7, rfl, rfl, by decide, rfl⟩
set_option maxRecDepth 20000 in
theorem f_X7_198 : XF RX7 198 7 49 19 false .int := ⟨RX7, TX7, rfl, by decide, gt_t4 17 rfl rfl, inX7, tyX7_x, nmX7, rfl, rfl, by decide, rfl⟩
set_option maxRecDepth 20000 in
theorem f_X7_201 : XF RX7 201 7 49 20 false .int := ⟨RX7, TX7, rfl, by decide, gt_t4 18 rfl rfl, inX7, tyX7_x, nmX7, rfl, rfl, by decide, rfl⟩
set_option maxRecDepth 20000 in
theorem f_X7_204 : XF RX7 204 7 49 21 false .int := ⟨RX7, TX7, rfl, by decide, gt_t4 19 rfl rfl, inX7, tyX7_x, nmX7, rfl, rfl, by decide, rfl⟩
set_option maxRecDepth 20000 in
theorem f_X7_136 : XF RX7 136 7 49 22 false .int := ⟨RX7, TX7, rfl, by decide, gt_t4 20 rfl rfl, inX7, tyX7_x, nmX7, rfl, rfl, by decide, rfl⟩
set_option maxRecDepth 20000 in
theorem f_X7_133 : XF RX7 133 7 49 23 false .int := ⟨RX7, TX7, rfl, by decide, gt_t4 21 rfl rfl, inX7, tyX7_x, nmX7, rfl, rfl, by decide, rfl⟩
set_option maxRecDepth 20000 in
theorem f_X7_139 : XF RX7 139 7 49 24 false .int := ⟨RX7, TX7, rfl, by decide, gt_t4 22 rfl rfl, inX7, tyX7_x, nmX7, rfl, rfl, by decide, rfl⟩
set_option maxRecDepth 20000 in
theorem f_X7_149 : XF RX7 149 7 49 25 false .int := ⟨RX7, TX7, rfl, by decide, gt_t4 23 rfl rfl, inX7, tyX7_x, nmX7, rfl, rfl, by decide, rfl⟩
set_option maxRecDepth 20000 in
theorem f_X7_146 : XF RX7 146 7 49 26 false .int := ⟨RX7, TX7, rfl, by decide, gt_t4 24 rfl rfl, inX7, tyX7_x, nmX7, rfl, rfl, by decide, rfl⟩
set_option maxRecDepth 20000 in
theorem f_X7_160 : XF RX7 160 7 49 27 false .long := ⟨RX7, TX7, rfl, by decide, gt_t4 25 rfl rfl, inX7, tyX7_x, nmX7, rfl, rfl, by decide, rfl⟩
set_option maxRecDepth 20000 in
theorem f_X7_176 : XF RX7 176 7 49 28 false .int := ⟨RX7, TX7, rfl, by decide, gt_t4 26 rfl rfl, inX7, tyX7_x, nmX7, rfl, rfl, by decide, rfl⟩
set_option maxRecDepth 20000 in
theorem f_X7_166 : XF RX7 166 7 49 29 false .boolean := ⟨RX7, TX7, rfl, by decide, gt_t4 27 rfl rfl, inX7, tyX7_x, nmX7, rfl, rfl, by decide, rfl⟩
set_option maxRecDepth 20000 in
theorem f_X7_170 : XF RX7 170 7 49 30 false .int := ⟨RX7, TX7, rfl, by decide, gt_t4 28 rfl rfl, inX7, tyX7_x, nmX7, rfl, rfl, by decide, rfl⟩
set_option maxRecDepth 20000 in
theorem f_X7_47 : XF RX7 47 7 49 31 true (.array .int) := ⟨RX7, TX7, rfl, by decide, gt_t4 29 rfl rfl, inX7, tyX7_x, nmX7, rfl, rfl, by decide, rfl⟩
set_option maxRecDepth 20000 in
theorem f_X7_50 : XF RX7 50 7 49 32 true (.array .int) := ⟨RX7, TX7, rfl, by decide, gt_t4 30 rfl rfl, inX7, tyX7_x, nmX7, rfl, rfl, by decide, rfl⟩
set_option maxRecDepth 20000 in
theorem f_X7_53 : XF RX7 53 7 49 33 true (.array .int) := ⟨RX7, TX7, rfl, by decide, gt_t4 31 rfl rfl, inX7, tyX7_x, nmX7, rfl, rfl, by decide, rfl⟩
set_option maxRecDepth 20000 in
theorem f_X7_254 : XF RX7 254 7 49 34 false .int := ⟨RX7, TX7, rfl, by decide, gt_t4 32 rfl rfl, inX7, tyX7_x, nmX7, rfl, rfl, by decide, rfl⟩
set_option maxRecDepth 20000 in
theorem f_X7_279 : XF RX7 279 7 49 35 false .int := ⟨RX7, TX7, rfl, by decide, gt_t4 33 rfl rfl, inX7, tyX7_x, nmX7, rfl, rfl, by decide, rfl⟩
set_option maxRecDepth 20000 in
theorem f_X7_282 : XF RX7 282 7 49 36 false .int := ⟨RX7, TX7, rfl, by decide, gt_t4 34 rfl rfl, inX7, tyX7_x, nmX7, rfl, rfl, by decide, rfl⟩
set_option maxRecDepth 20000 in
theorem f_X7_56 : XF RX7 56 7 49 37 true (.array .int) := ⟨RX7, TX7, rfl, by decide, gt_t4 35 rfl rfl, inX7, tyX7_x, nmX7, rfl, rfl, by decide, rfl⟩
set_option maxRecDepth 20000 in
theorem f_X7_59 : XF RX7 59 7 49 38 true (.array .int) := ⟨RX7, TX7, rfl, by decide, gt_t4 36 rfl rfl, inX7, tyX7_x, nmX7, rfl, rfl, by decide, rfl⟩
set_option maxRecDepth 20000 in
theorem f_X7_307 : XF RX7 307 7 49 39 false .int := ⟨RX7, TX7, rfl, by decide, gt_t4 37 rfl rfl, inX7, tyX7_x, nmX7, rfl, rfl, by decide, rfl⟩
set_option maxRecDepth 20000 in
theorem f_X7_304 : XF RX7 304 7 49 40 false .boolean := ⟨RX7, TX7, rfl, by decide, gt_t4 38 rfl rfl, inX7, tyX7_x, nmX7, rfl, rfl, by decide, rfl⟩
set_option maxRecDepth 20000 in
theorem f_X7_62 : XF RX7 62 7 49 41 true (.array .int) := ⟨RX7, TX7, rfl, by decide, gt_t4 39 rfl rfl, inX7, tyX7_x, nmX7, rfl, rfl, by decide, rfl⟩
set_option maxRecDepth 20000 in
theorem f_X7_65 : XF RX7 65 7 49 42 false .int := ⟨RX7, TX7, rfl, by decide, gt_t4 40 rfl rfl, inX7, tyX7_x, nmX7, rfl, rfl, by decide, rfl⟩
set_option maxRecDepth 20000 in
theorem f_X7_350 : XF RX7 350 7 49 43 false .int := ⟨RX7, TX7, rfl, by decide, gt_t4 41 rfl rfl, inX7, tyX7_x, nmX7, rfl, rfl, by decide, rfl⟩
set_option maxRecDepth 20000 in
theorem f_X7_353 : XF RX7 353 7 49 44 false .int := ⟨RX7, TX7, rfl, by decide, gt_t4 42 rfl rfl, inX7, tyX7_x, nmX7, rfl, rfl, by decide, rfl⟩
set_option maxRecDepth 20000 in
theorem f_X7_68 : XF RX7 68 7 49 45 true (.array .boolean) := ⟨RX7, TX7, rfl, by decide, gt_t4 43 rfl rfl, inX7, tyX7_x, nmX7, rfl, rfl, by decide, rfl⟩
set_option maxRecDepth 20000 in
theorem f_X7_72 : XF RX7 72 7 49 46 true (.array .int) := ⟨RX7, TX7, rfl, by decide, gt_t4 44 rfl rfl, inX7, tyX7_x, nmX7, rfl, rfl, by decide, rfl⟩
set_option maxRecDepth 20000 in
theorem f_X7_75 : XF RX7 75 7 49 47 true (.array .int) := ⟨RX7, TX7, rfl, by decide, gt_t4 45 rfl rfl, inX7, tyX7_x, nmX7, rfl, rfl, by decide, rfl⟩
set_option maxRecDepth 20000 in
theorem f_X7_78 : XF RX7 78 7 49 48 true (.array .int) := ⟨RX7, TX7, rfl, by decide, gt_t4 46 rfl rfl, inX7, tyX7_x, nmX7, rfl, rfl, by decide, rfl⟩
abbrev mX6_init : XM := (yX6_init, cX6_init, 2, (Option.none : Option FieldType))
abbrev mX0_init : XM := (yX0_init, cX0_init, 1, (Option.none : Option FieldType))
abbrev mX1_init : XM := (yX1_init, cX1_init, 1, (Option.none : Option FieldType))
abbrev mX5_init : XM := (yX5_init, cX5_init, 1, (Option.none : Option FieldType))
abbrev mX2_init : XM := (yX2_init, cX2_init, 1, (Option.none : Option FieldType))
abbrev mX4_init : XM := (yX4_init, cX4_init, 3, (Option.none : Option FieldType))
abbrev mX3_init : XM := (yX3_init, cX3_init, 1, (Option.none : Option FieldType))
abbrev mX6_rider : XM := (yX6_rider, cX6_rider, 4, (Option.some FieldType.int))
abbrev mX6_comeIn : XM := (yX6_comeIn, cX6_comeIn, 5, (Option.some FieldType.int))
abbrev mX6_isWay : XM := (yX6_isWay, cX6_isWay, 1, (Option.some FieldType.boolean))
abbrev mX0_canStand : XM := (yX0_canStand, cX0_canStand, 4, (Option.some FieldType.boolean))
abbrev mX6_set : XM := (yX6_set, cX6_set, 4, (Option.some FieldType.int))
abbrev mX6_putDoors : XM := (yX6_putDoors, cX6_putDoors, 3, (Option.some FieldType.int))
abbrev mX0_has : XM := (yX0_has, cX0_has, 2, (Option.some FieldType.boolean))
abbrev mX6_leastOf : XM := (yX6_leastOf, cX6_leastOf, 3, (Option.some FieldType.int))
abbrev mX6_mostOf : XM := (yX6_mostOf, cX6_mostOf, 1, (Option.some FieldType.int))
abbrev mX0_rowOf : XM := (yX0_rowOf, cX0_rowOf, 2, (Option.some (FieldType.array FieldType.int)))
abbrev mX6_put : XM := (yX6_put, cX6_put, 5, (Option.some FieldType.int))
abbrev mX6_told : XM := (yX6_told, cX6_told, 3, (Option.some FieldType.int))
abbrev mX6_lets : XM := (yX6_lets, cX6_lets, 3, (Option.some FieldType.int))
abbrev mX0_letsBy : XM := (yX0_letsBy, cX0_letsBy, 3, (Option.some FieldType.boolean))
abbrev mX6_feed : XM := (yX6_feed, cX6_feed, 2, (Option.some FieldType.int))
abbrev mX6_text : XM := (yX6_text, cX6_text, 2, (Option.some FieldType.int))
abbrev mX1_reads : XM := (yX1_reads, cX1_reads, 2, (Option.some FieldType.boolean))
abbrev mX1_step : XM := (yX1_step, cX1_step, 2, (Option.none : Option FieldType))
abbrev mX1_stepOverWord : XM := (yX1_stepOverWord, cX1_stepOverWord, 2, (Option.none : Option FieldType))
abbrev mX1_knownWord : XM := (yX1_knownWord, cX1_knownWord, 1, (Option.some (FieldType.object "java/lang/String")))
abbrev mX1_isWord : XM := (yX1_isWord, cX1_isWord, 3, (Option.some FieldType.boolean))
abbrev mJ0_length_8abf5 : XM := (yJ0_length_8abf5, cJ0_length_8abf5, 1, (Option.some FieldType.int))
abbrev mJ0_coder_7d493 : XM := (yJ0_coder_7d493, cJ0_coder_7d493, 1, (Option.some FieldType.byte))
abbrev mJ0_charAt_5068e : XM := (yJ0_charAt_5068e, cJ0_charAt_5068e, 2, (Option.some FieldType.char))
abbrev mJ0_isLatin1_aae02 : XM := (yJ0_isLatin1_aae02, cJ0_isLatin1_aae02, 1, (Option.some FieldType.boolean))
abbrev mJ1_charAt_3b067 : XM := (yJ1_charAt_3b067, cJ1_charAt_3b067, 2, (Option.some FieldType.char))
abbrev mJ0_checkIndex_df160 : XM := (yJ0_checkIndex_df160, cJ0_checkIndex_df160, 2, (Option.none : Option FieldType))
abbrev mJ3_checkIndex_8e157 : XM := (yJ3_checkIndex_8e157, cJ3_checkIndex_8e157, 3, (Option.some FieldType.int))
abbrev mX1_stepOverDigits : XM := (yX1_stepOverDigits, cX1_stepOverDigits, 1, (Option.none : Option FieldType))
abbrev mX1_isSign : XM := (yX1_isSign, cX1_isSign, 1, (Option.some FieldType.boolean))
abbrev mX1_passes : XM := (yX1_passes, cX1_passes, 2, (Option.some FieldType.boolean))
abbrev mX1_chain : XM := (yX1_chain, cX1_chain, 6, (Option.some FieldType.boolean))
abbrev mX1_perhapsNot : XM := (yX1_perhapsNot, cX1_perhapsNot, 3, (Option.some FieldType.boolean))
abbrev mX1_put : XM := (yX1_put, cX1_put, 2, (Option.some FieldType.boolean))
abbrev mX1_codeOf : XM := (yX1_codeOf, cX1_codeOf, 1, (Option.some FieldType.int))
abbrev mX1_single : XM := (yX1_single, cX1_single, 3, (Option.some FieldType.boolean))
abbrev mX1_levelOf : XM := (yX1_levelOf, cX1_levelOf, 1, (Option.some FieldType.int))
abbrev mX1_whatWasRead : XM := (yX1_whatWasRead, cX1_whatWasRead, 1, (Option.some (FieldType.object "GetsOutFirst$Text")))
abbrev mJ7_copyOf_59c91 : XM := (yJ7_copyOf_59c91, cJ7_copyOf_59c91, 3, (Option.some (FieldType.array FieldType.int)))
abbrev mJ9_min_7cf53 : XM := (yJ9_min_7cf53, cJ9_min_7cf53, 2, (Option.some FieldType.int))
abbrev mX6_force : XM := (yX6_force, cX6_force, 3, (Option.some FieldType.int))
abbrev mX6_ride : XM := (yX6_ride, cX6_ride, 2, (Option.some FieldType.int))
abbrev mX6_setOut : XM := (yX6_setOut, cX6_setOut, 2, (Option.none : Option FieldType))
abbrev mX5_start : XM := (yX5_start, cX5_start, 3, (Option.none : Option FieldType))
abbrev mX0_become : XM := (yX0_become, cX0_become, 3, (Option.none : Option FieldType))
abbrev mX5_gather : XM := (yX5_gather, cX5_gather, 5, (Option.none : Option FieldType))
abbrev mJ7_fill_53178 : XM := (yJ7_fill_53178, cJ7_fill_53178, 4, (Option.none : Option FieldType))
abbrev mX5_settle : XM := (yX5_settle, cX5_settle, 2, (Option.none : Option FieldType))
abbrev mX5_meet : XM := (yX5_meet, cX5_meet, 4, (Option.none : Option FieldType))
abbrev mX5_cost : XM := (yX5_cost, cX5_cost, 1, (Option.some FieldType.int))
abbrev mX5_costBelow : XM := (yX5_costBelow, cX5_costBelow, 4, (Option.some FieldType.int))
abbrev mX5_whoStepsOut : XM := (yX5_whoStepsOut, cX5_whoStepsOut, 5, (Option.some FieldType.int))
abbrev mX5_whoMakesWay : XM := (yX5_whoMakesWay, cX5_whoMakesWay, 5, (Option.some FieldType.int))
abbrev mJ6_bitCount_0f7a4 : XM := (yJ6_bitCount_0f7a4, cJ6_bitCount_0f7a4, 1, (Option.some FieldType.int))
abbrev mX5_costAt : XM := (yX5_costAt, cX5_costAt, 6, (Option.some FieldType.int))
abbrev mX5_price : XM := (yX5_price, cX5_price, 7, (Option.some FieldType.int))
abbrev mX4_worth : XM := (yX4_worth, cX4_worth, 9, (Option.some FieldType.int))
abbrev mJ9_max_7cf53 : XM := (yJ9_max_7cf53, cJ9_max_7cf53, 2, (Option.some FieldType.int))
abbrev mX0_costToStepOut : XM := (yX0_costToStepOut, cX0_costToStepOut, 3, (Option.some FieldType.int))
abbrev mX5_steps : XM := (yX5_steps, cX5_steps, 3, (Option.some FieldType.int))
abbrev mX5_floorsWithSteps : XM := (yX5_floorsWithSteps, cX5_floorsWithSteps, 3, (Option.some FieldType.int))
abbrev mX6_floor : XM := (yX6_floor, cX6_floor, 3, (Option.some FieldType.int))
abbrev mX5_whoGoesOn : XM := (yX5_whoGoesOn, cX5_whoGoesOn, 2, (Option.some FieldType.int))
abbrev mX6_stand : XM := (yX6_stand, cX6_stand, 2, (Option.some FieldType.int))
abbrev mX2_find : XM := (yX2_find, cX2_find, 2, (Option.none : Option FieldType))
abbrev mX0_isLike : XM := (yX0_isLike, cX0_isLike, 4, (Option.some FieldType.boolean))
abbrev mX2_putFrom : XM := (yX2_putFrom, cX2_putFrom, 5, (Option.none : Option FieldType))
abbrev mX5_costToMove : XM := (yX5_costToMove, cX5_costToMove, 2, (Option.some FieldType.int))
abbrev mX6_one : XM := (yX6_one, cX6_one, 7, (Option.some FieldType.int))
abbrev mX6_change : XM := (yX6_change, cX6_change, 7, (Option.some FieldType.int))
abbrev mX6_costOfChanging : XM := (yX6_costOfChanging, cX6_costOfChanging, 6, (Option.some FieldType.int))
abbrev mX0_allCanStand : XM := (yX0_allCanStand, cX0_allCanStand, 2, (Option.some FieldType.boolean))
abbrev mX6_second : XM := (yX6_second, cX6_second, 3, (Option.some FieldType.int))
abbrev mX6_whoShouldWalk : XM := (yX6_whoShouldWalk, cX6_whoShouldWalk, 6, (Option.some FieldType.int))
abbrev mX6_stands : XM := (yX6_stands, cX6_stands, 3, (Option.some FieldType.int))
abbrev mX6_mean : XM := (yX6_mean, cX6_mean, 10, (Option.some FieldType.long))
abbrev mX6_weightOf : XM := (yX6_weightOf, cX6_weightOf, 5, (Option.some FieldType.long))
abbrev mX6_inLowestTerms : XM := (yX6_inLowestTerms, cX6_inLowestTerms, 12, (Option.some FieldType.long))
abbrev mX6_landings : XM := (yX6_landings, cX6_landings, 3, (Option.some FieldType.int))
abbrev mX6_isSheet : XM := (yX6_isSheet, cX6_isSheet, 1, (Option.some FieldType.boolean))
abbrev mX6_refusalToRead : XM := (yX6_refusalToRead, cX6_refusalToRead, 1, (Option.some FieldType.int))
abbrev mX3_isMissing : XM := (yX3_isMissing, cX3_isMissing, 1, (Option.some FieldType.boolean))
abbrev mX6_firstUnlike : XM := (yX6_firstUnlike, cX6_firstUnlike, 3, (Option.some FieldType.int))
abbrev mX6_seen : XM := (yX6_seen, cX6_seen, 5, (Option.some FieldType.int))
abbrev mX6_whichFit : XM := (yX6_whichFit, cX6_whichFit, 8, (Option.some FieldType.int))
abbrev mX6_film : XM := (yX6_film, cX6_film, 4, (Option.some FieldType.int))
abbrev mX3_become : XM := (yX3_become, cX3_become, 3, (Option.none : Option FieldType))
abbrev mX6_drawn : XM := (yX6_drawn, cX6_drawn, 2, (Option.some FieldType.int))
abbrev mX6_costOfDrawn : XM := (yX6_costOfDrawn, cX6_costOfDrawn, 7, (Option.some FieldType.int))
abbrev mX6_chance : XM := (yX6_chance, cX6_chance, 7, (Option.some FieldType.long))
abbrev mX6_image : XM := (yX6_image, cX6_image, 1, (Option.some FieldType.int))
abbrev mX6_back : XM := (yX6_back, cX6_back, 1, (Option.some FieldType.int))
abbrev mX6_count : XM := (yX6_count, cX6_count, 2, (Option.some FieldType.int))
abbrev mX6_sheet : XM := (yX6_sheet, cX6_sheet, 4, (Option.some FieldType.int))
abbrev mX6_cell : XM := (yX6_cell, cX6_cell, 5, (Option.some FieldType.int))
abbrev mX3_narrowed : XM := (yX3_narrowed, cX3_narrowed, 2, (Option.some FieldType.int))
abbrev mX6_copy : XM := (yX6_copy, cX6_copy, 8, (Option.some FieldType.int))
abbrev mX3_holds : XM := (yX3_holds, cX3_holds, 3, (Option.some FieldType.boolean))
abbrev mX6_riders : XM := (yX6_riders, cX6_riders, 9, (Option.some FieldType.int))
abbrev mX6_taken : XM := (yX6_taken, cX6_taken, 3, (Option.some FieldType.int))
abbrev mX6_isUnder : XM := (yX6_isUnder, cX6_isUnder, 4, (Option.some FieldType.boolean))
abbrev mX7_init : XM := (yX7_init, cX7_init, 1, (Option.none : Option FieldType))
abbrev mX7_spell : XM := (yX7_spell, cX7_spell, 10, (Option.none : Option FieldType))
abbrev mX7_rider : XM := (yX7_rider, cX7_rider, 6, (Option.some FieldType.int))
abbrev mX7_in : XM := (yX7_in, cX7_in, 6, (Option.some FieldType.boolean))
abbrev mX7_areTwo : XM := (yX7_areTwo, cX7_areTwo, 4, (Option.some FieldType.boolean))
abbrev mX7_set : XM := (yX7_set, cX7_set, 6, (Option.some FieldType.int))
abbrev mX7_isRider : XM := (yX7_isRider, cX7_isRider, 2, (Option.some FieldType.boolean))
abbrev mX7_told : XM := (yX7_told, cX7_told, 3, (Option.some FieldType.int))
abbrev mX7_puts : XM := (yX7_puts, cX7_puts, 4, (Option.none : Option FieldType))
abbrev mX7_lets : XM := (yX7_lets, cX7_lets, 3, (Option.some FieldType.int))
abbrev mX7_doesLet : XM := (yX7_doesLet, cX7_doesLet, 5, (Option.some FieldType.boolean))
abbrev mX7_feed : XM := (yX7_feed, cX7_feed, 2, (Option.some FieldType.int))
abbrev mX7_text : XM := (yX7_text, cX7_text, 2, (Option.some FieldType.int))
abbrev mX7_read : XM := (yX7_read, cX7_read, 6, (Option.some FieldType.int))
abbrev mX7_next : XM := (yX7_next, cX7_next, 3, (Option.none : Option FieldType))
abbrev mX7_byteAt : XM := (yX7_byteAt, cX7_byteAt, 2, (Option.some FieldType.int))
abbrev mX7_isWord : XM := (yX7_isWord, cX7_isWord, 9, (Option.some FieldType.boolean))
abbrev mX7_isLetter : XM := (yX7_isLetter, cX7_isLetter, 3, (Option.some FieldType.boolean))
abbrev mX7_part : XM := (yX7_part, cX7_part, 3, (Option.some FieldType.int))
abbrev mX7_fail : XM := (yX7_fail, cX7_fail, 1, (Option.none : Option FieldType))
abbrev mX7_either : XM := (yX7_either, cX7_either, 3, (Option.some FieldType.int))
abbrev mX7_both : XM := (yX7_both, cX7_both, 3, (Option.some FieldType.int))
abbrev mX7_not : XM := (yX7_not, cX7_not, 4, (Option.some FieldType.int))
abbrev mX7_opens : XM := (yX7_opens, cX7_opens, 1, (Option.some FieldType.boolean))
abbrev mX7_added : XM := (yX7_added, cX7_added, 4, (Option.some FieldType.int))
abbrev mX7_term : XM := (yX7_term, cX7_term, 2, (Option.some FieldType.int))
abbrev mX7_atom : XM := (yX7_atom, cX7_atom, 2, (Option.some FieldType.int))
abbrev mX7_isSign : XM := (yX7_isSign, cX7_isSign, 2, (Option.some FieldType.boolean))
abbrev mX7_name : XM := (yX7_name, cX7_name, 1, (Option.some FieldType.int))
abbrev mX7_force : XM := (yX7_force, cX7_force, 3, (Option.some FieldType.int))
abbrev mX7_ride : XM := (yX7_ride, cX7_ride, 3, (Option.some FieldType.int))
abbrev mX7_allRiders : XM := (yX7_allRiders, cX7_allRiders, 1, (Option.some FieldType.int))
abbrev mX7_gathers : XM := (yX7_gathers, cX7_gathers, 7, (Option.none : Option FieldType))
abbrev mX7_insideAt : XM := (yX7_insideAt, cX7_insideAt, 4, (Option.some FieldType.int))
abbrev mX7_says : XM := (yX7_says, cX7_says, 6, (Option.some FieldType.int))
abbrev mX7_within : XM := (yX7_within, cX7_within, 3, (Option.some FieldType.int))
abbrev mX7_costsOf : XM := (yX7_costsOf, cX7_costsOf, 5, (Option.some FieldType.int))
abbrev mX7_rides : XM := (yX7_rides, cX7_rides, 4, (Option.some FieldType.int))
abbrev mX7_stepsAt : XM := (yX7_stepsAt, cX7_stepsAt, 6, (Option.some FieldType.int))
abbrev mX7_stayingAt : XM := (yX7_stayingAt, cX7_stayingAt, 4, (Option.some FieldType.int))
abbrev mX7_mustFor : XM := (yX7_mustFor, cX7_mustFor, 5, (Option.some FieldType.int))
abbrev mX7_barring : XM := (yX7_barring, cX7_barring, 7, (Option.some FieldType.int))
abbrev mX7_bitsOf : XM := (yX7_bitsOf, cX7_bitsOf, 3, (Option.some FieldType.int))
abbrev mX7_costAt : XM := (yX7_costAt, cX7_costAt, 7, (Option.some FieldType.int))
abbrev mX7_floor : XM := (yX7_floor, cX7_floor, 6, (Option.some FieldType.int))
abbrev mX7_stand : XM := (yX7_stand, cX7_stand, 2, (Option.some FieldType.int))
abbrev mX7_seeks : XM := (yX7_seeks, cX7_seeks, 1, (Option.none : Option FieldType))
abbrev mX7_keeps : XM := (yX7_keeps, cX7_keeps, 2, (Option.none : Option FieldType))
abbrev mX7_putsFrom : XM := (yX7_putsFrom, cX7_putsFrom, 4, (Option.none : Option FieldType))
abbrev mX7_costOfStanding : XM := (yX7_costOfStanding, cX7_costOfStanding, 3, (Option.some FieldType.int))
abbrev mX7_laysBack : XM := (yX7_laysBack, cX7_laysBack, 2, (Option.none : Option FieldType))
abbrev mX7_stands : XM := (yX7_stands, cX7_stands, 3, (Option.some FieldType.int))
abbrev mX7_one : XM := (yX7_one, cX7_one, 7, (Option.some FieldType.int))
abbrev mX7_change : XM := (yX7_change, cX7_change, 7, (Option.some FieldType.int))
abbrev mX7_second : XM := (yX7_second, cX7_second, 6, (Option.some FieldType.int))
abbrev mX7_mean : XM := (yX7_mean, cX7_mean, 11, (Option.some FieldType.long))
abbrev mX7_lowest : XM := (yX7_lowest, cX7_lowest, 11, (Option.some FieldType.long))
abbrev mX7_landings : XM := (yX7_landings, cX7_landings, 3, (Option.some FieldType.int))
abbrev mX7_landingsBad : XM := (yX7_landingsBad, cX7_landingsBad, 2, (Option.some FieldType.int))
abbrev mX7_isSheet : XM := (yX7_isSheet, cX7_isSheet, 1, (Option.some FieldType.boolean))
abbrev mX7_unlikeAt : XM := (yX7_unlikeAt, cX7_unlikeAt, 3, (Option.some FieldType.int))
abbrev mX7_seen : XM := (yX7_seen, cX7_seen, 8, (Option.some FieldType.int))
abbrev mX7_lays : XM := (yX7_lays, cX7_lays, 4, (Option.none : Option FieldType))
abbrev mX7_film : XM := (yX7_film, cX7_film, 4, (Option.some FieldType.int))
abbrev mX7_sheet : XM := (yX7_sheet, cX7_sheet, 5, (Option.some FieldType.int))
abbrev mX7_drawn : XM := (yX7_drawn, cX7_drawn, 2, (Option.some FieldType.int))
abbrev mX7_draws : XM := (yX7_draws, cX7_draws, 4, (Option.some FieldType.int))
abbrev mX7_chance : XM := (yX7_chance, cX7_chance, 8, (Option.some FieldType.long))
abbrev mX7_image : XM := (yX7_image, cX7_image, 2, (Option.some FieldType.int))
abbrev mX7_back : XM := (yX7_back, cX7_back, 2, (Option.some FieldType.int))
abbrev mX7_count : XM := (yX7_count, cX7_count, 2, (Option.some FieldType.int))
abbrev mX7_cell : XM := (yX7_cell, cX7_cell, 4, (Option.some FieldType.int))
abbrev mX7_copy : XM := (yX7_copy, cX7_copy, 9, (Option.some FieldType.int))
abbrev mX7_riders : XM := (yX7_riders, cX7_riders, 8, (Option.some FieldType.int))
abbrev mX7_taken : XM := (yX7_taken, cX7_taken, 4, (Option.some FieldType.int))
abbrev mX7_over : XM := (yX7_over, cX7_over, 1, (Option.some FieldType.int))
set_option maxRecDepth 20000 in
theorem gX6_init : XMi mX6_init 0 := ⟨⟨gt_t1 21 rfl rfl, gt_t1 1 rfl rfl, ⟨by decide, by decide, by decide +kernel⟩, by decide⟩, rfl, gt_t1 20 rfl rfl, rfl⟩
set_option maxRecDepth 20000 in
theorem gX0_init : XMi mX0_init 0 := ⟨⟨gt_t1 29 rfl rfl, gt_t1 2 rfl rfl, ⟨by decide, by decide, by decide +kernel⟩, by decide⟩, rfl, gt_t1 28 rfl rfl, rfl⟩
set_option maxRecDepth 20000 in
theorem gX1_init : XMi mX1_init 0 := ⟨⟨gt_t1 86 rfl rfl, gt_t1 3 rfl rfl, ⟨by decide, by decide, by decide +kernel⟩, by decide⟩, rfl, gt_t1 85 rfl rfl, rfl⟩
set_option maxRecDepth 20000 in
theorem gX5_init : XMi mX5_init 0 := ⟨⟨gt_t1 127 rfl rfl, gt_t1 4 rfl rfl, ⟨by decide, by decide, by decide +kernel⟩, by decide⟩, rfl, gt_t1 126 rfl rfl, rfl⟩
set_option maxRecDepth 20000 in
theorem gX2_init : XMi mX2_init 0 := ⟨⟨gt_t1 168 rfl rfl, gt_t1 5 rfl rfl, ⟨by decide, by decide, by decide +kernel⟩, by decide⟩, rfl, gt_t1 167 rfl rfl, rfl⟩
set_option maxRecDepth 20000 in
theorem gX4_init : XMi mX4_init 2 := ⟨⟨gt_t1 190 rfl rfl, gt_t1 6 rfl rfl, ⟨by decide, by decide, by decide +kernel⟩, by decide⟩, rfl, gt_t1 189 rfl rfl, rfl⟩
set_option maxRecDepth 20000 in
theorem gX3_init : XMi mX3_init 0 := ⟨⟨gt_t1 202 rfl rfl, gt_t1 7 rfl rfl, ⟨by decide, by decide, by decide +kernel⟩, by decide⟩, rfl, gt_t1 201 rfl rfl, rfl⟩
set_option maxRecDepth 20000 in
theorem gX6_rider : XMv mX6_rider 3 := ⟨⟨gt_t2 8 rfl rfl, gt_t1 1 rfl rfl, ⟨by decide, by decide, by decide +kernel⟩, by decide⟩, gt_t2 6 rfl rfl, gt_t2 7 rfl rfl⟩
set_option maxRecDepth 20000 in
theorem gX6_comeIn : XMv mX6_comeIn 3 := ⟨⟨gt_t2 12 rfl rfl, gt_t1 1 rfl rfl, ⟨by decide, by decide, by decide +kernel⟩, by decide⟩, gt_t2 11 rfl rfl, gt_in (List.mem_append_left _ (List.mem_of_getElem? (i := 0) rfl)) rfl⟩
set_option maxRecDepth 20000 in
theorem gX6_isWay : XMs mX6_isWay 1 := ⟨⟨gt_t2 15 rfl rfl, gt_t1 1 rfl rfl, ⟨by decide, by decide, by decide +kernel⟩, by decide⟩, gt_t2 14 rfl rfl⟩
set_option maxRecDepth 20000 in
theorem gX0_canStand : XMv mX0_canStand 2 := ⟨⟨gt_t2 19 rfl rfl, gt_t1 2 rfl rfl, ⟨by decide, by decide, by decide +kernel⟩, by decide⟩, gt_t2 17 rfl rfl, gt_t2 18 rfl rfl⟩
set_option maxRecDepth 20000 in
theorem gX6_set : XMv mX6_set 3 := ⟨⟨gt_t2 23 rfl rfl, gt_t1 1 rfl rfl, ⟨by decide, by decide, by decide +kernel⟩, by decide⟩, gt_t2 21 rfl rfl, gt_t2 22 rfl rfl⟩
set_option maxRecDepth 20000 in
theorem gX6_putDoors : XMv mX6_putDoors 1 := ⟨⟨gt_t2 27 rfl rfl, gt_t1 1 rfl rfl, ⟨by decide, by decide, by decide +kernel⟩, by decide⟩, gt_t2 26 rfl rfl, gt_in (List.mem_append_left _ (List.mem_of_getElem? (i := 1) rfl)) rfl⟩
set_option maxRecDepth 20000 in
theorem gX0_has : XMv mX0_has 1 := ⟨⟨gt_t2 31 rfl rfl, gt_t1 2 rfl rfl, ⟨by decide, by decide, by decide +kernel⟩, by decide⟩, gt_t2 29 rfl rfl, gt_t2 30 rfl rfl⟩
set_option maxRecDepth 20000 in
theorem gX6_leastOf : XMv mX6_leastOf 2 := ⟨⟨gt_t2 35 rfl rfl, gt_t1 1 rfl rfl, ⟨by decide, by decide, by decide +kernel⟩, by decide⟩, gt_t2 34 rfl rfl, gt_in (List.mem_append_left _ (List.mem_of_getElem? (i := 2) rfl)) rfl⟩
set_option maxRecDepth 20000 in
theorem gX6_mostOf : XMs mX6_mostOf 1 := ⟨⟨gt_t2 38 rfl rfl, gt_t1 1 rfl rfl, ⟨by decide, by decide, by decide +kernel⟩, by decide⟩, gt_t2 37 rfl rfl⟩
set_option maxRecDepth 20000 in
theorem gX0_rowOf : XMv mX0_rowOf 1 := ⟨⟨gt_t2 42 rfl rfl, gt_t1 2 rfl rfl, ⟨by decide, by decide, by decide +kernel⟩, by decide⟩, gt_t2 40 rfl rfl, gt_t2 41 rfl rfl⟩
set_option maxRecDepth 20000 in
theorem gX6_put : XMv mX6_put 3 := ⟨⟨gt_t2 46 rfl rfl, gt_t1 1 rfl rfl, ⟨by decide, by decide, by decide +kernel⟩, by decide⟩, gt_t2 45 rfl rfl, gt_in (List.mem_append_left _ (List.mem_of_getElem? (i := 3) rfl)) rfl⟩
set_option maxRecDepth 20000 in
theorem gX6_told : XMv mX6_told 2 := ⟨⟨gt_t2 50 rfl rfl, gt_t1 1 rfl rfl, ⟨by decide, by decide, by decide +kernel⟩, by decide⟩, gt_t2 48 rfl rfl, gt_t2 49 rfl rfl⟩
set_option maxRecDepth 20000 in
theorem gX6_lets : XMv mX6_lets 2 := ⟨⟨gt_t2 54 rfl rfl, gt_t1 1 rfl rfl, ⟨by decide, by decide, by decide +kernel⟩, by decide⟩, gt_t2 52 rfl rfl, gt_t2 53 rfl rfl⟩
set_option maxRecDepth 20000 in
theorem gX0_letsBy : XMv mX0_letsBy 2 := ⟨⟨gt_t2 58 rfl rfl, gt_t1 2 rfl rfl, ⟨by decide, by decide, by decide +kernel⟩, by decide⟩, gt_t2 56 rfl rfl, gt_t2 57 rfl rfl⟩
set_option maxRecDepth 20000 in
theorem gX6_feed : XMv mX6_feed 1 := ⟨⟨gt_t2 62 rfl rfl, gt_t1 1 rfl rfl, ⟨by decide, by decide, by decide +kernel⟩, by decide⟩, gt_t2 60 rfl rfl, gt_t2 61 rfl rfl⟩
set_option maxRecDepth 20000 in
theorem gX6_text : XMv mX6_text 0 := ⟨⟨gt_t2 66 rfl rfl, gt_t1 1 rfl rfl, ⟨by decide, by decide, by decide +kernel⟩, by decide⟩, gt_t2 64 rfl rfl, gt_t2 65 rfl rfl⟩
set_option maxRecDepth 20000 in
theorem gX1_reads : XMv mX1_reads 0 := ⟨⟨gt_t2 70 rfl rfl, gt_t1 3 rfl rfl, ⟨by decide, by decide, by decide +kernel⟩, by decide⟩, gt_t2 68 rfl rfl, gt_t2 69 rfl rfl⟩
set_option maxRecDepth 20000 in
theorem gX1_step : XMv mX1_step 0 := ⟨⟨gt_t2 74 rfl rfl, gt_t1 3 rfl rfl, ⟨by decide, by decide, by decide +kernel⟩, by decide⟩, gt_t2 73 rfl rfl, gt_in (List.mem_append_left _ (List.mem_of_getElem? (i := 4) rfl)) rfl⟩
set_option maxRecDepth 20000 in
theorem gX1_stepOverWord : XMv mX1_stepOverWord 0 := ⟨⟨gt_t2 78 rfl rfl, gt_t1 3 rfl rfl, ⟨by decide, by decide, by decide +kernel⟩, by decide⟩, gt_t2 77 rfl rfl, gt_in (List.mem_append_left _ (List.mem_of_getElem? (i := 5) rfl)) rfl⟩
set_option maxRecDepth 20000 in
theorem gX1_knownWord : XMs mX1_knownWord 1 := ⟨⟨gt_t2 81 rfl rfl, gt_t1 3 rfl rfl, ⟨by decide, by decide, by decide +kernel⟩, by decide⟩, gt_t2 80 rfl rfl⟩
set_option maxRecDepth 20000 in
theorem gX1_isWord : XMv mX1_isWord 1 := ⟨⟨gt_t2 97 rfl rfl, gt_t1 3 rfl rfl, ⟨by decide, by decide, by decide +kernel⟩, by decide⟩, gt_t2 96 rfl rfl, gt_in (List.mem_append_left _ (List.mem_of_getElem? (i := 6) rfl)) rfl⟩
set_option maxRecDepth 20000 in
theorem gJ0_length_8abf5 : XMv mJ0_length_8abf5 0 := ⟨⟨gt_t2 101 rfl rfl, gt_t1 9 rfl rfl, ⟨by decide, by decide, by decide +kernel⟩, by decide⟩, gt_t2 99 rfl rfl, gt_t2 100 rfl rfl⟩
set_option maxRecDepth 20000 in
theorem gJ0_coder_7d493 : XMv mJ0_coder_7d493 0 := ⟨⟨gt_t2 105 rfl rfl, gt_t1 9 rfl rfl, ⟨by decide, by decide, by decide +kernel⟩, by decide⟩, gt_t2 103 rfl rfl, gt_t2 104 rfl rfl⟩
set_option maxRecDepth 20000 in
theorem gJ0_charAt_5068e : XMv mJ0_charAt_5068e 1 := ⟨⟨gt_t2 111 rfl rfl, gt_t1 9 rfl rfl, ⟨by decide, by decide, by decide +kernel⟩, by decide⟩, gt_t2 109 rfl rfl, gt_t2 110 rfl rfl⟩
set_option maxRecDepth 20000 in
theorem gJ0_isLatin1_aae02 : XMv mJ0_isLatin1_aae02 0 := ⟨⟨gt_t2 115 rfl rfl, gt_t1 9 rfl rfl, ⟨by decide, by decide, by decide +kernel⟩, by decide⟩, gt_t2 113 rfl rfl, gt_t2 114 rfl rfl⟩
set_option maxRecDepth 20000 in
theorem gJ1_charAt_3b067 : XMs mJ1_charAt_3b067 2 := ⟨⟨gt_t2 118 rfl rfl, gt_t1 10 rfl rfl, ⟨by decide, by decide, by decide +kernel⟩, by decide⟩, gt_t2 117 rfl rfl⟩
set_option maxRecDepth 20000 in
theorem gJ0_checkIndex_df160 : XMs mJ0_checkIndex_df160 2 := ⟨⟨gt_t2 121 rfl rfl, gt_t1 9 rfl rfl, ⟨by decide, by decide, by decide +kernel⟩, by decide⟩, gt_t2 120 rfl rfl⟩
set_option maxRecDepth 20000 in
theorem gJ3_checkIndex_8e157 : XMs mJ3_checkIndex_8e157 3 := ⟨⟨gt_t2 126 rfl rfl, gt_t1 11 rfl rfl, ⟨by decide, by decide, by decide +kernel⟩, by decide⟩, gt_t2 125 rfl rfl⟩
set_option maxRecDepth 20000 in
theorem gX1_stepOverDigits : XMv mX1_stepOverDigits 0 := ⟨⟨gt_t2 149 rfl rfl, gt_t1 3 rfl rfl, ⟨by decide, by decide, by decide +kernel⟩, by decide⟩, gt_t2 148 rfl rfl, gt_in (List.mem_append_left _ (List.mem_of_getElem? (i := 7) rfl)) rfl⟩
set_option maxRecDepth 20000 in
theorem gX1_isSign : XMs mX1_isSign 1 := ⟨⟨gt_t2 152 rfl rfl, gt_t1 3 rfl rfl, ⟨by decide, by decide, by decide +kernel⟩, by decide⟩, gt_t2 151 rfl rfl⟩
set_option maxRecDepth 20000 in
theorem gX1_passes : XMv mX1_passes 1 := ⟨⟨gt_t2 156 rfl rfl, gt_t1 3 rfl rfl, ⟨by decide, by decide, by decide +kernel⟩, by decide⟩, gt_t2 155 rfl rfl, gt_in (List.mem_append_left _ (List.mem_of_getElem? (i := 8) rfl)) rfl⟩
set_option maxRecDepth 20000 in
theorem gX1_chain : XMv mX1_chain 2 := ⟨⟨gt_t2 160 rfl rfl, gt_t1 3 rfl rfl, ⟨by decide, by decide, by decide +kernel⟩, by decide⟩, gt_t2 159 rfl rfl, gt_in (List.mem_append_left _ (List.mem_of_getElem? (i := 9) rfl)) rfl⟩
set_option maxRecDepth 20000 in
theorem gX1_perhapsNot : XMv mX1_perhapsNot 1 := ⟨⟨gt_t2 164 rfl rfl, gt_t1 3 rfl rfl, ⟨by decide, by decide, by decide +kernel⟩, by decide⟩, gt_t2 163 rfl rfl, gt_in (List.mem_append_left _ (List.mem_of_getElem? (i := 10) rfl)) rfl⟩
set_option maxRecDepth 20000 in
theorem gX1_put : XMv mX1_put 1 := ⟨⟨gt_t2 168 rfl rfl, gt_t1 3 rfl rfl, ⟨by decide, by decide, by decide +kernel⟩, by decide⟩, gt_t2 167 rfl rfl, gt_in (List.mem_append_left _ (List.mem_of_getElem? (i := 11) rfl)) rfl⟩
set_option maxRecDepth 20000 in
theorem gX1_codeOf : XMs mX1_codeOf 1 := ⟨⟨gt_t2 171 rfl rfl, gt_t1 3 rfl rfl, ⟨by decide, by decide, by decide +kernel⟩, by decide⟩, gt_t2 170 rfl rfl⟩
set_option maxRecDepth 20000 in
theorem gX1_single : XMv mX1_single 1 := ⟨⟨gt_t2 175 rfl rfl, gt_t1 3 rfl rfl, ⟨by decide, by decide, by decide +kernel⟩, by decide⟩, gt_t2 174 rfl rfl, gt_in (List.mem_append_left _ (List.mem_of_getElem? (i := 12) rfl)) rfl⟩
set_option maxRecDepth 20000 in
theorem gX1_levelOf : XMs mX1_levelOf 1 := ⟨⟨gt_t2 178 rfl rfl, gt_t1 3 rfl rfl, ⟨by decide, by decide, by decide +kernel⟩, by decide⟩, gt_t2 177 rfl rfl⟩
set_option maxRecDepth 20000 in
theorem gX1_whatWasRead : XMv mX1_whatWasRead 0 := ⟨⟨gt_t2 182 rfl rfl, gt_t1 3 rfl rfl, ⟨by decide, by decide, by decide +kernel⟩, by decide⟩, gt_t2 180 rfl rfl, gt_t2 181 rfl rfl⟩
set_option maxRecDepth 20000 in
theorem gJ7_copyOf_59c91 : XMs mJ7_copyOf_59c91 2 := ⟨⟨gt_t2 186 rfl rfl, gt_t1 13 rfl rfl, ⟨by decide, by decide, by decide +kernel⟩, by decide⟩, gt_t2 185 rfl rfl⟩
set_option maxRecDepth 20000 in
theorem gJ9_min_7cf53 : XMs mJ9_min_7cf53 2 := ⟨⟨gt_t2 196 rfl rfl, gt_t1 14 rfl rfl, ⟨by decide, by decide, by decide +kernel⟩, by decide⟩, gt_t2 195 rfl rfl⟩
set_option maxRecDepth 20000 in
theorem gX6_force : XMv mX6_force 1 := ⟨⟨gt_t2 205 rfl rfl, gt_t1 1 rfl rfl, ⟨by decide, by decide, by decide +kernel⟩, by decide⟩, gt_t2 203 rfl rfl, gt_t2 204 rfl rfl⟩
set_option maxRecDepth 20000 in
theorem gX6_ride : XMv mX6_ride 1 := ⟨⟨gt_t2 209 rfl rfl, gt_t1 1 rfl rfl, ⟨by decide, by decide, by decide +kernel⟩, by decide⟩, gt_t2 207 rfl rfl, gt_t2 208 rfl rfl⟩
set_option maxRecDepth 20000 in
theorem gX6_setOut : XMv mX6_setOut 0 := ⟨⟨gt_t2 213 rfl rfl, gt_t1 1 rfl rfl, ⟨by decide, by decide, by decide +kernel⟩, by decide⟩, gt_t2 212 rfl rfl, gt_in (List.mem_append_left _ (List.mem_of_getElem? (i := 13) rfl)) rfl⟩
set_option maxRecDepth 20000 in
theorem gX5_start : XMv mX5_start 2 := ⟨⟨gt_t2 217 rfl rfl, gt_t1 4 rfl rfl, ⟨by decide, by decide, by decide +kernel⟩, by decide⟩, gt_t2 215 rfl rfl, gt_t2 216 rfl rfl⟩
set_option maxRecDepth 20000 in
theorem gX0_become : XMv mX0_become 1 := ⟨⟨gt_t2 221 rfl rfl, gt_t1 2 rfl rfl, ⟨by decide, by decide, by decide +kernel⟩, by decide⟩, gt_t2 219 rfl rfl, gt_t2 220 rfl rfl⟩
set_option maxRecDepth 20000 in
theorem gX5_gather : XMv mX5_gather 1 := ⟨⟨gt_t2 227 rfl rfl, gt_t1 4 rfl rfl, ⟨by decide, by decide, by decide +kernel⟩, by decide⟩, gt_t2 225 rfl rfl, gt_t2 226 rfl rfl⟩
set_option maxRecDepth 20000 in
theorem gJ7_fill_53178 : XMs mJ7_fill_53178 2 := ⟨⟨gt_t2 230 rfl rfl, gt_t1 13 rfl rfl, ⟨by decide, by decide, by decide +kernel⟩, by decide⟩, gt_t2 229 rfl rfl⟩
set_option maxRecDepth 20000 in
theorem gX5_settle : XMv mX5_settle 0 := ⟨⟨gt_t2 234 rfl rfl, gt_t1 4 rfl rfl, ⟨by decide, by decide, by decide +kernel⟩, by decide⟩, gt_t2 232 rfl rfl, gt_t2 233 rfl rfl⟩
set_option maxRecDepth 20000 in
theorem gX5_meet : XMv mX5_meet 1 := ⟨⟨gt_t2 238 rfl rfl, gt_t1 4 rfl rfl, ⟨by decide, by decide, by decide +kernel⟩, by decide⟩, gt_t2 236 rfl rfl, gt_t2 237 rfl rfl⟩
set_option maxRecDepth 20000 in
theorem gX5_cost : XMv mX5_cost 0 := ⟨⟨gt_t3 3 rfl rfl, gt_t1 4 rfl rfl, ⟨by decide, by decide, by decide +kernel⟩, by decide⟩, gt_t3 1 rfl rfl, gt_t3 2 rfl rfl⟩
set_option maxRecDepth 20000 in
theorem gX5_costBelow : XMv mX5_costBelow 1 := ⟨⟨gt_t3 8 rfl rfl, gt_t1 4 rfl rfl, ⟨by decide, by decide, by decide +kernel⟩, by decide⟩, gt_t3 6 rfl rfl, gt_t3 7 rfl rfl⟩
set_option maxRecDepth 20000 in
theorem gX5_whoStepsOut : XMv mX5_whoStepsOut 1 := ⟨⟨gt_t3 12 rfl rfl, gt_t1 4 rfl rfl, ⟨by decide, by decide, by decide +kernel⟩, by decide⟩, gt_t3 10 rfl rfl, gt_t3 11 rfl rfl⟩
set_option maxRecDepth 20000 in
theorem gX5_whoMakesWay : XMv mX5_whoMakesWay 2 := ⟨⟨gt_t3 16 rfl rfl, gt_t1 4 rfl rfl, ⟨by decide, by decide, by decide +kernel⟩, by decide⟩, gt_t3 15 rfl rfl, gt_in (List.mem_append_left _ (List.mem_of_getElem? (i := 14) rfl)) rfl⟩
set_option maxRecDepth 20000 in
theorem gJ6_bitCount_0f7a4 : XMs mJ6_bitCount_0f7a4 1 := ⟨⟨gt_t3 19 rfl rfl, gt_t1 16 rfl rfl, ⟨by decide, by decide, by decide +kernel⟩, by decide⟩, gt_t3 18 rfl rfl⟩
set_option maxRecDepth 20000 in
theorem gX5_costAt : XMv mX5_costAt 2 := ⟨⟨gt_t3 26 rfl rfl, gt_t1 4 rfl rfl, ⟨by decide, by decide, by decide +kernel⟩, by decide⟩, gt_t3 24 rfl rfl, gt_t3 25 rfl rfl⟩
set_option maxRecDepth 20000 in
theorem gX5_price : XMv mX5_price 4 := ⟨⟨gt_t3 30 rfl rfl, gt_t1 4 rfl rfl, ⟨by decide, by decide, by decide +kernel⟩, by decide⟩, gt_t3 29 rfl rfl, gt_in (List.mem_append_left _ (List.mem_of_getElem? (i := 15) rfl)) rfl⟩
set_option maxRecDepth 20000 in
theorem gX4_worth : XMv mX4_worth 3 := ⟨⟨gt_t3 34 rfl rfl, gt_t1 6 rfl rfl, ⟨by decide, by decide, by decide +kernel⟩, by decide⟩, gt_t3 32 rfl rfl, gt_t3 33 rfl rfl⟩
set_option maxRecDepth 20000 in
theorem gJ9_max_7cf53 : XMs mJ9_max_7cf53 2 := ⟨⟨gt_t3 38 rfl rfl, gt_t1 14 rfl rfl, ⟨by decide, by decide, by decide +kernel⟩, by decide⟩, gt_t3 37 rfl rfl⟩
set_option maxRecDepth 20000 in
theorem gX0_costToStepOut : XMv mX0_costToStepOut 2 := ⟨⟨gt_t3 42 rfl rfl, gt_t1 2 rfl rfl, ⟨by decide, by decide, by decide +kernel⟩, by decide⟩, gt_t3 40 rfl rfl, gt_t3 41 rfl rfl⟩
set_option maxRecDepth 20000 in
theorem gX5_steps : XMv mX5_steps 0 := ⟨⟨gt_t3 47 rfl rfl, gt_t1 4 rfl rfl, ⟨by decide, by decide, by decide +kernel⟩, by decide⟩, gt_t3 45 rfl rfl, gt_t3 46 rfl rfl⟩
set_option maxRecDepth 20000 in
theorem gX5_floorsWithSteps : XMv mX5_floorsWithSteps 0 := ⟨⟨gt_t3 51 rfl rfl, gt_t1 4 rfl rfl, ⟨by decide, by decide, by decide +kernel⟩, by decide⟩, gt_t3 49 rfl rfl, gt_t3 50 rfl rfl⟩
set_option maxRecDepth 20000 in
theorem gX6_floor : XMv mX6_floor 2 := ⟨⟨gt_t3 55 rfl rfl, gt_t1 1 rfl rfl, ⟨by decide, by decide, by decide +kernel⟩, by decide⟩, gt_t3 53 rfl rfl, gt_t3 54 rfl rfl⟩
set_option maxRecDepth 20000 in
theorem gX5_whoGoesOn : XMv mX5_whoGoesOn 1 := ⟨⟨gt_t3 61 rfl rfl, gt_t1 4 rfl rfl, ⟨by decide, by decide, by decide +kernel⟩, by decide⟩, gt_t3 59 rfl rfl, gt_t3 60 rfl rfl⟩
set_option maxRecDepth 20000 in
theorem gX6_stand : XMv mX6_stand 1 := ⟨⟨gt_t3 65 rfl rfl, gt_t1 1 rfl rfl, ⟨by decide, by decide, by decide +kernel⟩, by decide⟩, gt_t3 63 rfl rfl, gt_t3 64 rfl rfl⟩
set_option maxRecDepth 20000 in
theorem gX2_find : XMv mX2_find 1 := ⟨⟨gt_t3 69 rfl rfl, gt_t1 5 rfl rfl, ⟨by decide, by decide, by decide +kernel⟩, by decide⟩, gt_t3 67 rfl rfl, gt_t3 68 rfl rfl⟩
set_option maxRecDepth 20000 in
theorem gX0_isLike : XMv mX0_isLike 1 := ⟨⟨gt_t3 73 rfl rfl, gt_t1 2 rfl rfl, ⟨by decide, by decide, by decide +kernel⟩, by decide⟩, gt_t3 71 rfl rfl, gt_t3 72 rfl rfl⟩
set_option maxRecDepth 20000 in
theorem gX2_putFrom : XMv mX2_putFrom 3 := ⟨⟨gt_t3 79 rfl rfl, gt_t1 5 rfl rfl, ⟨by decide, by decide, by decide +kernel⟩, by decide⟩, gt_t3 78 rfl rfl, gt_in (List.mem_append_left _ (List.mem_of_getElem? (i := 16) rfl)) rfl⟩
set_option maxRecDepth 20000 in
theorem gX5_costToMove : XMv mX5_costToMove 1 := ⟨⟨gt_t3 87 rfl rfl, gt_t1 4 rfl rfl, ⟨by decide, by decide, by decide +kernel⟩, by decide⟩, gt_t3 85 rfl rfl, gt_t3 86 rfl rfl⟩
set_option maxRecDepth 20000 in
theorem gX6_one : XMv mX6_one 2 := ⟨⟨gt_t3 91 rfl rfl, gt_t1 1 rfl rfl, ⟨by decide, by decide, by decide +kernel⟩, by decide⟩, gt_t3 89 rfl rfl, gt_t3 90 rfl rfl⟩
set_option maxRecDepth 20000 in
theorem gX6_change : XMv mX6_change 1 := ⟨⟨gt_t3 97 rfl rfl, gt_t1 1 rfl rfl, ⟨by decide, by decide, by decide +kernel⟩, by decide⟩, gt_t3 95 rfl rfl, gt_t3 96 rfl rfl⟩
set_option maxRecDepth 20000 in
theorem gX6_costOfChanging : XMv mX6_costOfChanging 3 := ⟨⟨gt_t3 101 rfl rfl, gt_t1 1 rfl rfl, ⟨by decide, by decide, by decide +kernel⟩, by decide⟩, gt_t3 100 rfl rfl, gt_in (List.mem_append_left _ (List.mem_of_getElem? (i := 17) rfl)) rfl⟩
set_option maxRecDepth 20000 in
theorem gX0_allCanStand : XMv mX0_allCanStand 0 := ⟨⟨gt_t3 105 rfl rfl, gt_t1 2 rfl rfl, ⟨by decide, by decide, by decide +kernel⟩, by decide⟩, gt_t3 103 rfl rfl, gt_t3 104 rfl rfl⟩
set_option maxRecDepth 20000 in
theorem gX6_second : XMv mX6_second 1 := ⟨⟨gt_t3 110 rfl rfl, gt_t1 1 rfl rfl, ⟨by decide, by decide, by decide +kernel⟩, by decide⟩, gt_t3 108 rfl rfl, gt_t3 109 rfl rfl⟩
set_option maxRecDepth 20000 in
theorem gX6_whoShouldWalk : XMv mX6_whoShouldWalk 0 := ⟨⟨gt_t3 115 rfl rfl, gt_t1 1 rfl rfl, ⟨by decide, by decide, by decide +kernel⟩, by decide⟩, gt_t3 114 rfl rfl, gt_in (List.mem_append_left _ (List.mem_of_getElem? (i := 18) rfl)) rfl⟩
set_option maxRecDepth 20000 in
theorem gX6_stands : XMv mX6_stands 0 := ⟨⟨gt_t3 120 rfl rfl, gt_t1 1 rfl rfl, ⟨by decide, by decide, by decide +kernel⟩, by decide⟩, gt_t3 118 rfl rfl, gt_t3 119 rfl rfl⟩
set_option maxRecDepth 20000 in
theorem gX6_mean : XMv mX6_mean 2 := ⟨⟨gt_t3 124 rfl rfl, gt_t1 1 rfl rfl, ⟨by decide, by decide, by decide +kernel⟩, by decide⟩, gt_t3 122 rfl rfl, gt_t3 123 rfl rfl⟩
set_option maxRecDepth 20000 in
theorem gX6_weightOf : XMv mX6_weightOf 1 := ⟨⟨gt_t3 130 rfl rfl, gt_t1 1 rfl rfl, ⟨by decide, by decide, by decide +kernel⟩, by decide⟩, gt_t3 129 rfl rfl, gt_in (List.mem_append_left _ (List.mem_of_getElem? (i := 19) rfl)) rfl⟩
set_option maxRecDepth 20000 in
theorem gX6_inLowestTerms : XMs mX6_inLowestTerms 3 := ⟨⟨gt_t3 133 rfl rfl, gt_t1 1 rfl rfl, ⟨by decide, by decide, by decide +kernel⟩, by decide⟩, gt_t3 132 rfl rfl⟩
set_option maxRecDepth 20000 in
theorem gX6_landings : XMv mX6_landings 1 := ⟨⟨gt_t3 137 rfl rfl, gt_t1 1 rfl rfl, ⟨by decide, by decide, by decide +kernel⟩, by decide⟩, gt_t3 135 rfl rfl, gt_t3 136 rfl rfl⟩
set_option maxRecDepth 20000 in
theorem gX6_isSheet : XMs mX6_isSheet 1 := ⟨⟨gt_t3 140 rfl rfl, gt_t1 1 rfl rfl, ⟨by decide, by decide, by decide +kernel⟩, by decide⟩, gt_t3 139 rfl rfl⟩
set_option maxRecDepth 20000 in
theorem gX6_refusalToRead : XMs mX6_refusalToRead 1 := ⟨⟨gt_t3 143 rfl rfl, gt_t1 1 rfl rfl, ⟨by decide, by decide, by decide +kernel⟩, by decide⟩, gt_t3 142 rfl rfl⟩
set_option maxRecDepth 20000 in
theorem gX3_isMissing : XMv mX3_isMissing 0 := ⟨⟨gt_t3 147 rfl rfl, gt_t1 7 rfl rfl, ⟨by decide, by decide, by decide +kernel⟩, by decide⟩, gt_t3 145 rfl rfl, gt_t3 146 rfl rfl⟩
set_option maxRecDepth 20000 in
theorem gX6_firstUnlike : XMv mX6_firstUnlike 1 := ⟨⟨gt_t3 151 rfl rfl, gt_t1 1 rfl rfl, ⟨by decide, by decide, by decide +kernel⟩, by decide⟩, gt_t3 150 rfl rfl, gt_in (List.mem_append_left _ (List.mem_of_getElem? (i := 20) rfl)) rfl⟩
set_option maxRecDepth 20000 in
theorem gX6_seen : XMv mX6_seen 3 := ⟨⟨gt_t3 155 rfl rfl, gt_t1 1 rfl rfl, ⟨by decide, by decide, by decide +kernel⟩, by decide⟩, gt_t3 153 rfl rfl, gt_t3 154 rfl rfl⟩
set_option maxRecDepth 20000 in
theorem gX6_whichFit : XMv mX6_whichFit 5 := ⟨⟨gt_t3 159 rfl rfl, gt_t1 1 rfl rfl, ⟨by decide, by decide, by decide +kernel⟩, by decide⟩, gt_t3 158 rfl rfl, gt_in (List.mem_append_left _ (List.mem_of_getElem? (i := 21) rfl)) rfl⟩
set_option maxRecDepth 20000 in
theorem gX6_film : XMv mX6_film 2 := ⟨⟨gt_t3 163 rfl rfl, gt_t1 1 rfl rfl, ⟨by decide, by decide, by decide +kernel⟩, by decide⟩, gt_t3 161 rfl rfl, gt_t3 162 rfl rfl⟩
set_option maxRecDepth 20000 in
theorem gX3_become : XMv mX3_become 2 := ⟨⟨gt_t3 167 rfl rfl, gt_t1 7 rfl rfl, ⟨by decide, by decide, by decide +kernel⟩, by decide⟩, gt_t3 165 rfl rfl, gt_t3 166 rfl rfl⟩
set_option maxRecDepth 20000 in
theorem gX6_drawn : XMv mX6_drawn 1 := ⟨⟨gt_t3 172 rfl rfl, gt_t1 1 rfl rfl, ⟨by decide, by decide, by decide +kernel⟩, by decide⟩, gt_t3 170 rfl rfl, gt_t3 171 rfl rfl⟩
set_option maxRecDepth 20000 in
theorem gX6_costOfDrawn : XMv mX6_costOfDrawn 1 := ⟨⟨gt_t3 176 rfl rfl, gt_t1 1 rfl rfl, ⟨by decide, by decide, by decide +kernel⟩, by decide⟩, gt_t3 175 rfl rfl, gt_in (List.mem_append_left _ (List.mem_of_getElem? (i := 22) rfl)) rfl⟩
set_option maxRecDepth 20000 in
theorem gX6_chance : XMv mX6_chance 3 := ⟨⟨gt_t3 181 rfl rfl, gt_t1 1 rfl rfl, ⟨by decide, by decide, by decide +kernel⟩, by decide⟩, gt_t3 179 rfl rfl, gt_t3 180 rfl rfl⟩
set_option maxRecDepth 20000 in
theorem gX6_image : XMv mX6_image 0 := ⟨⟨gt_t3 185 rfl rfl, gt_t1 1 rfl rfl, ⟨by decide, by decide, by decide +kernel⟩, by decide⟩, gt_t3 183 rfl rfl, gt_t3 184 rfl rfl⟩
set_option maxRecDepth 20000 in
theorem gX6_back : XMv mX6_back 0 := ⟨⟨gt_t3 190 rfl rfl, gt_t1 1 rfl rfl, ⟨by decide, by decide, by decide +kernel⟩, by decide⟩, gt_t3 188 rfl rfl, gt_t3 189 rfl rfl⟩
set_option maxRecDepth 20000 in
theorem gX6_count : XMv mX6_count 1 := ⟨⟨gt_t3 194 rfl rfl, gt_t1 1 rfl rfl, ⟨by decide, by decide, by decide +kernel⟩, by decide⟩, gt_t3 192 rfl rfl, gt_t3 193 rfl rfl⟩
set_option maxRecDepth 20000 in
theorem gX6_sheet : XMv mX6_sheet 3 := ⟨⟨gt_t3 198 rfl rfl, gt_t1 1 rfl rfl, ⟨by decide, by decide, by decide +kernel⟩, by decide⟩, gt_t3 196 rfl rfl, gt_t3 197 rfl rfl⟩
set_option maxRecDepth 20000 in
theorem gX6_cell : XMv mX6_cell 3 := ⟨⟨gt_t3 202 rfl rfl, gt_t1 1 rfl rfl, ⟨by decide, by decide, by decide +kernel⟩, by decide⟩, gt_t3 200 rfl rfl, gt_t3 201 rfl rfl⟩
set_option maxRecDepth 20000 in
theorem gX3_narrowed : XMv mX3_narrowed 1 := ⟨⟨gt_t3 206 rfl rfl, gt_t1 7 rfl rfl, ⟨by decide, by decide, by decide +kernel⟩, by decide⟩, gt_t3 204 rfl rfl, gt_t3 205 rfl rfl⟩
set_option maxRecDepth 20000 in
theorem gX6_copy : XMv mX6_copy 5 := ⟨⟨gt_t3 210 rfl rfl, gt_t1 1 rfl rfl, ⟨by decide, by decide, by decide +kernel⟩, by decide⟩, gt_t3 208 rfl rfl, gt_t3 209 rfl rfl⟩
set_option maxRecDepth 20000 in
theorem gX3_holds : XMv mX3_holds 2 := ⟨⟨gt_t3 214 rfl rfl, gt_t1 7 rfl rfl, ⟨by decide, by decide, by decide +kernel⟩, by decide⟩, gt_t3 212 rfl rfl, gt_t3 213 rfl rfl⟩
set_option maxRecDepth 20000 in
theorem gX6_riders : XMv mX6_riders 4 := ⟨⟨gt_t3 219 rfl rfl, gt_t1 1 rfl rfl, ⟨by decide, by decide, by decide +kernel⟩, by decide⟩, gt_t3 217 rfl rfl, gt_t3 218 rfl rfl⟩
set_option maxRecDepth 20000 in
theorem gX6_taken : XMv mX6_taken 2 := ⟨⟨gt_t3 223 rfl rfl, gt_t1 1 rfl rfl, ⟨by decide, by decide, by decide +kernel⟩, by decide⟩, gt_t3 221 rfl rfl, gt_t3 222 rfl rfl⟩
set_option maxRecDepth 20000 in
theorem gX6_isUnder : XMs mX6_isUnder 2 := ⟨⟨gt_t3 226 rfl rfl, gt_t1 1 rfl rfl, ⟨by decide, by decide, by decide +kernel⟩, by decide⟩, gt_t3 225 rfl rfl⟩
set_option maxRecDepth 20000 in
theorem gX7_init : XMi mX7_init 0 := ⟨⟨gt_t3 233 rfl rfl, gt_t1 8 rfl rfl, ⟨by decide, by decide, by decide +kernel⟩, by decide⟩, rfl, gt_t3 232 rfl rfl, rfl⟩
set_option maxRecDepth 20000 in
theorem gX7_spell : XMv mX7_spell 9 := ⟨⟨gt_t3 238 rfl rfl, gt_t1 8 rfl rfl, ⟨by decide, by decide, by decide +kernel⟩, by decide⟩, gt_t3 237 rfl rfl, gt_in (List.mem_append_left _ (List.mem_of_getElem? (i := 23) rfl)) rfl⟩
set_option maxRecDepth 20000 in
theorem gX7_rider : XMv mX7_rider 3 := ⟨⟨gt_t4 150 rfl rfl, gt_t1 8 rfl rfl, ⟨by decide, by decide, by decide +kernel⟩, by decide⟩, gt_t4 148 rfl rfl, gt_t4 149 rfl rfl⟩
set_option maxRecDepth 20000 in
theorem gX7_in : XMs mX7_in 3 := ⟨⟨gt_t4 154 rfl rfl, gt_t1 8 rfl rfl, ⟨by decide, by decide, by decide +kernel⟩, by decide⟩, gt_t4 153 rfl rfl⟩
set_option maxRecDepth 20000 in
theorem gX7_areTwo : XMv mX7_areTwo 1 := ⟨⟨gt_t4 160 rfl rfl, gt_t1 8 rfl rfl, ⟨by decide, by decide, by decide +kernel⟩, by decide⟩, gt_t4 159 rfl rfl, gt_in (List.mem_append_left _ (List.mem_of_getElem? (i := 24) rfl)) rfl⟩
set_option maxRecDepth 20000 in
theorem gX7_set : XMv mX7_set 3 := ⟨⟨gt_t4 164 rfl rfl, gt_t1 8 rfl rfl, ⟨by decide, by decide, by decide +kernel⟩, by decide⟩, gt_t4 162 rfl rfl, gt_t4 163 rfl rfl⟩
set_option maxRecDepth 20000 in
theorem gX7_isRider : XMv mX7_isRider 1 := ⟨⟨gt_t4 168 rfl rfl, gt_t1 8 rfl rfl, ⟨by decide, by decide, by decide +kernel⟩, by decide⟩, gt_t4 167 rfl rfl, gt_in (List.mem_append_left _ (List.mem_of_getElem? (i := 25) rfl)) rfl⟩
set_option maxRecDepth 20000 in
theorem gX7_told : XMv mX7_told 2 := ⟨⟨gt_t4 175 rfl rfl, gt_t1 8 rfl rfl, ⟨by decide, by decide, by decide +kernel⟩, by decide⟩, gt_t4 173 rfl rfl, gt_t4 174 rfl rfl⟩
set_option maxRecDepth 20000 in
theorem gX7_puts : XMv mX7_puts 3 := ⟨⟨gt_t4 180 rfl rfl, gt_t1 8 rfl rfl, ⟨by decide, by decide, by decide +kernel⟩, by decide⟩, gt_t4 179 rfl rfl, gt_in (List.mem_append_left _ (List.mem_of_getElem? (i := 26) rfl)) rfl⟩
set_option maxRecDepth 20000 in
theorem gX7_lets : XMv mX7_lets 2 := ⟨⟨gt_t4 185 rfl rfl, gt_t1 8 rfl rfl, ⟨by decide, by decide, by decide +kernel⟩, by decide⟩, gt_t4 183 rfl rfl, gt_t4 184 rfl rfl⟩
set_option maxRecDepth 20000 in
theorem gX7_doesLet : XMv mX7_doesLet 2 := ⟨⟨gt_t4 189 rfl rfl, gt_t1 8 rfl rfl, ⟨by decide, by decide, by decide +kernel⟩, by decide⟩, gt_t4 188 rfl rfl, gt_in (List.mem_append_left _ (List.mem_of_getElem? (i := 27) rfl)) rfl⟩
set_option maxRecDepth 20000 in
theorem gX7_feed : XMv mX7_feed 1 := ⟨⟨gt_t4 193 rfl rfl, gt_t1 8 rfl rfl, ⟨by decide, by decide, by decide +kernel⟩, by decide⟩, gt_t4 191 rfl rfl, gt_t4 192 rfl rfl⟩
set_option maxRecDepth 20000 in
theorem gX7_text : XMv mX7_text 0 := ⟨⟨gt_t4 198 rfl rfl, gt_t1 8 rfl rfl, ⟨by decide, by decide, by decide +kernel⟩, by decide⟩, gt_t4 196 rfl rfl, gt_t4 197 rfl rfl⟩
set_option maxRecDepth 20000 in
theorem gX7_read : XMv mX7_read 2 := ⟨⟨gt_t4 202 rfl rfl, gt_t1 8 rfl rfl, ⟨by decide, by decide, by decide +kernel⟩, by decide⟩, gt_t4 201 rfl rfl, gt_in (List.mem_append_left _ (List.mem_of_getElem? (i := 28) rfl)) rfl⟩
set_option maxRecDepth 20000 in
theorem gX7_next : XMv mX7_next 0 := ⟨⟨gt_t4 206 rfl rfl, gt_t1 8 rfl rfl, ⟨by decide, by decide, by decide +kernel⟩, by decide⟩, gt_t4 205 rfl rfl, gt_in (List.mem_append_left _ (List.mem_of_getElem? (i := 29) rfl)) rfl⟩
set_option maxRecDepth 20000 in
theorem gX7_byteAt : XMv mX7_byteAt 1 := ⟨⟨gt_t4 210 rfl rfl, gt_t1 8 rfl rfl, ⟨by decide, by decide, by decide +kernel⟩, by decide⟩, gt_t4 209 rfl rfl, gt_in (List.mem_append_left _ (List.mem_of_getElem? (i := 30) rfl)) rfl⟩
set_option maxRecDepth 20000 in
theorem gX7_isWord : XMv mX7_isWord 8 := ⟨⟨gt_t4 219 rfl rfl, gt_t1 8 rfl rfl, ⟨by decide, by decide, by decide +kernel⟩, by decide⟩, gt_t4 218 rfl rfl, gt_in (List.mem_append_left _ (List.mem_of_getElem? (i := 31) rfl)) rfl⟩
set_option maxRecDepth 20000 in
theorem gX7_isLetter : XMv mX7_isLetter 2 := ⟨⟨gt_t4 223 rfl rfl, gt_t1 8 rfl rfl, ⟨by decide, by decide, by decide +kernel⟩, by decide⟩, gt_t4 222 rfl rfl, gt_in (List.mem_append_left _ (List.mem_of_getElem? (i := 32) rfl)) rfl⟩
set_option maxRecDepth 20000 in
theorem gX7_part : XMv mX7_part 1 := ⟨⟨gt_t4 227 rfl rfl, gt_t1 8 rfl rfl, ⟨by decide, by decide, by decide +kernel⟩, by decide⟩, gt_t4 226 rfl rfl, gt_in (List.mem_append_left _ (List.mem_of_getElem? (i := 33) rfl)) rfl⟩
set_option maxRecDepth 20000 in
theorem gX7_fail : XMv mX7_fail 0 := ⟨⟨gt_t4 231 rfl rfl, gt_t1 8 rfl rfl, ⟨by decide, by decide, by decide +kernel⟩, by decide⟩, gt_t4 230 rfl rfl, gt_in (List.mem_append_left _ (List.mem_of_getElem? (i := 34) rfl)) rfl⟩
set_option maxRecDepth 20000 in
theorem gX7_either : XMv mX7_either 0 := ⟨⟨gt_t4 235 rfl rfl, gt_t1 8 rfl rfl, ⟨by decide, by decide, by decide +kernel⟩, by decide⟩, gt_t4 234 rfl rfl, gt_in (List.mem_append_left _ (List.mem_of_getElem? (i := 35) rfl)) rfl⟩
set_option maxRecDepth 20000 in
theorem gX7_both : XMv mX7_both 0 := ⟨⟨gt_t4 239 rfl rfl, gt_t1 8 rfl rfl, ⟨by decide, by decide, by decide +kernel⟩, by decide⟩, gt_t4 238 rfl rfl, gt_in (List.mem_append_left _ (List.mem_of_getElem? (i := 36) rfl)) rfl⟩
set_option maxRecDepth 20000 in
theorem gX7_not : XMv mX7_not 0 := ⟨⟨gt_t5 3 rfl rfl, gt_t1 8 rfl rfl, ⟨by decide, by decide, by decide +kernel⟩, by decide⟩, gt_t5 2 rfl rfl, gt_in (List.mem_append_left _ (List.mem_of_getElem? (i := 37) rfl)) rfl⟩
set_option maxRecDepth 20000 in
theorem gX7_opens : XMv mX7_opens 0 := ⟨⟨gt_t5 7 rfl rfl, gt_t1 8 rfl rfl, ⟨by decide, by decide, by decide +kernel⟩, by decide⟩, gt_t5 6 rfl rfl, gt_in (List.mem_append_left _ (List.mem_of_getElem? (i := 38) rfl)) rfl⟩
set_option maxRecDepth 20000 in
theorem gX7_added : XMv mX7_added 0 := ⟨⟨gt_t5 11 rfl rfl, gt_t1 8 rfl rfl, ⟨by decide, by decide, by decide +kernel⟩, by decide⟩, gt_t5 10 rfl rfl, gt_in (List.mem_append_left _ (List.mem_of_getElem? (i := 39) rfl)) rfl⟩
set_option maxRecDepth 20000 in
theorem gX7_term : XMv mX7_term 0 := ⟨⟨gt_t5 15 rfl rfl, gt_t1 8 rfl rfl, ⟨by decide, by decide, by decide +kernel⟩, by decide⟩, gt_t5 14 rfl rfl, gt_in (List.mem_append_left _ (List.mem_of_getElem? (i := 40) rfl)) rfl⟩
set_option maxRecDepth 20000 in
theorem gX7_atom : XMv mX7_atom 0 := ⟨⟨gt_t5 19 rfl rfl, gt_t1 8 rfl rfl, ⟨by decide, by decide, by decide +kernel⟩, by decide⟩, gt_t5 18 rfl rfl, gt_in (List.mem_append_left _ (List.mem_of_getElem? (i := 41) rfl)) rfl⟩
set_option maxRecDepth 20000 in
theorem gX7_isSign : XMv mX7_isSign 1 := ⟨⟨gt_t5 23 rfl rfl, gt_t1 8 rfl rfl, ⟨by decide, by decide, by decide +kernel⟩, by decide⟩, gt_t5 22 rfl rfl, gt_in (List.mem_append_left _ (List.mem_of_getElem? (i := 42) rfl)) rfl⟩
set_option maxRecDepth 20000 in
theorem gX7_name : XMv mX7_name 0 := ⟨⟨gt_t5 27 rfl rfl, gt_t1 8 rfl rfl, ⟨by decide, by decide, by decide +kernel⟩, by decide⟩, gt_t5 26 rfl rfl, gt_in (List.mem_append_left _ (List.mem_of_getElem? (i := 43) rfl)) rfl⟩
set_option maxRecDepth 20000 in
theorem gX7_force : XMv mX7_force 1 := ⟨⟨gt_t5 33 rfl rfl, gt_t1 8 rfl rfl, ⟨by decide, by decide, by decide +kernel⟩, by decide⟩, gt_t5 31 rfl rfl, gt_t5 32 rfl rfl⟩
set_option maxRecDepth 20000 in
theorem gX7_ride : XMv mX7_ride 1 := ⟨⟨gt_t5 37 rfl rfl, gt_t1 8 rfl rfl, ⟨by decide, by decide, by decide +kernel⟩, by decide⟩, gt_t5 35 rfl rfl, gt_t5 36 rfl rfl⟩
set_option maxRecDepth 20000 in
theorem gX7_allRiders : XMv mX7_allRiders 0 := ⟨⟨gt_t5 41 rfl rfl, gt_t1 8 rfl rfl, ⟨by decide, by decide, by decide +kernel⟩, by decide⟩, gt_t5 40 rfl rfl, gt_in (List.mem_append_left _ (List.mem_of_getElem? (i := 44) rfl)) rfl⟩
set_option maxRecDepth 20000 in
theorem gX7_gathers : XMv mX7_gathers 1 := ⟨⟨gt_t5 45 rfl rfl, gt_t1 8 rfl rfl, ⟨by decide, by decide, by decide +kernel⟩, by decide⟩, gt_t5 44 rfl rfl, gt_in (List.mem_append_left _ (List.mem_of_getElem? (i := 45) rfl)) rfl⟩
set_option maxRecDepth 20000 in
theorem gX7_insideAt : XMv mX7_insideAt 1 := ⟨⟨gt_t5 49 rfl rfl, gt_t1 8 rfl rfl, ⟨by decide, by decide, by decide +kernel⟩, by decide⟩, gt_t5 48 rfl rfl, gt_in (List.mem_append_left _ (List.mem_of_getElem? (i := 46) rfl)) rfl⟩
set_option maxRecDepth 20000 in
theorem gX7_says : XMv mX7_says 5 := ⟨⟨gt_t5 53 rfl rfl, gt_t1 8 rfl rfl, ⟨by decide, by decide, by decide +kernel⟩, by decide⟩, gt_t5 52 rfl rfl, gt_in (List.mem_append_left _ (List.mem_of_getElem? (i := 47) rfl)) rfl⟩
set_option maxRecDepth 20000 in
theorem gX7_within : XMs mX7_within 3 := ⟨⟨gt_t5 56 rfl rfl, gt_t1 8 rfl rfl, ⟨by decide, by decide, by decide +kernel⟩, by decide⟩, gt_t5 55 rfl rfl⟩
set_option maxRecDepth 20000 in
theorem gX7_costsOf : XMv mX7_costsOf 2 := ⟨⟨gt_t5 60 rfl rfl, gt_t1 8 rfl rfl, ⟨by decide, by decide, by decide +kernel⟩, by decide⟩, gt_t5 59 rfl rfl, gt_in (List.mem_append_left _ (List.mem_of_getElem? (i := 48) rfl)) rfl⟩
set_option maxRecDepth 20000 in
theorem gX7_rides : XMv mX7_rides 0 := ⟨⟨gt_t5 64 rfl rfl, gt_t1 8 rfl rfl, ⟨by decide, by decide, by decide +kernel⟩, by decide⟩, gt_t5 63 rfl rfl, gt_in (List.mem_append_left _ (List.mem_of_getElem? (i := 49) rfl)) rfl⟩
set_option maxRecDepth 20000 in
theorem gX7_stepsAt : XMv mX7_stepsAt 1 := ⟨⟨gt_t5 68 rfl rfl, gt_t1 8 rfl rfl, ⟨by decide, by decide, by decide +kernel⟩, by decide⟩, gt_t5 67 rfl rfl, gt_in (List.mem_append_left _ (List.mem_of_getElem? (i := 50) rfl)) rfl⟩
set_option maxRecDepth 20000 in
theorem gX7_stayingAt : XMv mX7_stayingAt 1 := ⟨⟨gt_t5 72 rfl rfl, gt_t1 8 rfl rfl, ⟨by decide, by decide, by decide +kernel⟩, by decide⟩, gt_t5 71 rfl rfl, gt_in (List.mem_append_left _ (List.mem_of_getElem? (i := 51) rfl)) rfl⟩
set_option maxRecDepth 20000 in
theorem gX7_mustFor : XMv mX7_mustFor 2 := ⟨⟨gt_t5 76 rfl rfl, gt_t1 8 rfl rfl, ⟨by decide, by decide, by decide +kernel⟩, by decide⟩, gt_t5 75 rfl rfl, gt_in (List.mem_append_left _ (List.mem_of_getElem? (i := 52) rfl)) rfl⟩
set_option maxRecDepth 20000 in
theorem gX7_barring : XMv mX7_barring 3 := ⟨⟨gt_t5 80 rfl rfl, gt_t1 8 rfl rfl, ⟨by decide, by decide, by decide +kernel⟩, by decide⟩, gt_t5 79 rfl rfl, gt_in (List.mem_append_left _ (List.mem_of_getElem? (i := 53) rfl)) rfl⟩
set_option maxRecDepth 20000 in
theorem gX7_bitsOf : XMs mX7_bitsOf 1 := ⟨⟨gt_t5 83 rfl rfl, gt_t1 8 rfl rfl, ⟨by decide, by decide, by decide +kernel⟩, by decide⟩, gt_t5 82 rfl rfl⟩
set_option maxRecDepth 20000 in
theorem gX7_costAt : XMv mX7_costAt 2 := ⟨⟨gt_t5 87 rfl rfl, gt_t1 8 rfl rfl, ⟨by decide, by decide, by decide +kernel⟩, by decide⟩, gt_t5 86 rfl rfl, gt_in (List.mem_append_left _ (List.mem_of_getElem? (i := 54) rfl)) rfl⟩
set_option maxRecDepth 20000 in
theorem gX7_floor : XMv mX7_floor 2 := ⟨⟨gt_t5 91 rfl rfl, gt_t1 8 rfl rfl, ⟨by decide, by decide, by decide +kernel⟩, by decide⟩, gt_t5 89 rfl rfl, gt_t5 90 rfl rfl⟩
set_option maxRecDepth 20000 in
theorem gX7_stand : XMv mX7_stand 1 := ⟨⟨gt_t5 95 rfl rfl, gt_t1 8 rfl rfl, ⟨by decide, by decide, by decide +kernel⟩, by decide⟩, gt_t5 93 rfl rfl, gt_t5 94 rfl rfl⟩
set_option maxRecDepth 20000 in
theorem gX7_seeks : XMv mX7_seeks 0 := ⟨⟨gt_t5 99 rfl rfl, gt_t1 8 rfl rfl, ⟨by decide, by decide, by decide +kernel⟩, by decide⟩, gt_t5 98 rfl rfl, gt_in (List.mem_append_left _ (List.mem_of_getElem? (i := 55) rfl)) rfl⟩
set_option maxRecDepth 20000 in
theorem gX7_keeps : XMv mX7_keeps 0 := ⟨⟨gt_t5 103 rfl rfl, gt_t1 8 rfl rfl, ⟨by decide, by decide, by decide +kernel⟩, by decide⟩, gt_t5 102 rfl rfl, gt_in (List.mem_append_left _ (List.mem_of_getElem? (i := 56) rfl)) rfl⟩
set_option maxRecDepth 20000 in
theorem gX7_putsFrom : XMv mX7_putsFrom 1 := ⟨⟨gt_t5 107 rfl rfl, gt_t1 8 rfl rfl, ⟨by decide, by decide, by decide +kernel⟩, by decide⟩, gt_t5 106 rfl rfl, gt_in (List.mem_append_left _ (List.mem_of_getElem? (i := 57) rfl)) rfl⟩
set_option maxRecDepth 20000 in
theorem gX7_costOfStanding : XMv mX7_costOfStanding 0 := ⟨⟨gt_t5 111 rfl rfl, gt_t1 8 rfl rfl, ⟨by decide, by decide, by decide +kernel⟩, by decide⟩, gt_t5 110 rfl rfl, gt_in (List.mem_append_left _ (List.mem_of_getElem? (i := 58) rfl)) rfl⟩
set_option maxRecDepth 20000 in
theorem gX7_laysBack : XMv mX7_laysBack 0 := ⟨⟨gt_t5 115 rfl rfl, gt_t1 8 rfl rfl, ⟨by decide, by decide, by decide +kernel⟩, by decide⟩, gt_t5 114 rfl rfl, gt_in (List.mem_append_left _ (List.mem_of_getElem? (i := 59) rfl)) rfl⟩
set_option maxRecDepth 20000 in
theorem gX7_stands : XMv mX7_stands 0 := ⟨⟨gt_t5 119 rfl rfl, gt_t1 8 rfl rfl, ⟨by decide, by decide, by decide +kernel⟩, by decide⟩, gt_t5 117 rfl rfl, gt_t5 118 rfl rfl⟩
set_option maxRecDepth 20000 in
theorem gX7_one : XMv mX7_one 2 := ⟨⟨gt_t5 123 rfl rfl, gt_t1 8 rfl rfl, ⟨by decide, by decide, by decide +kernel⟩, by decide⟩, gt_t5 121 rfl rfl, gt_t5 122 rfl rfl⟩
set_option maxRecDepth 20000 in
theorem gX7_change : XMv mX7_change 1 := ⟨⟨gt_t5 127 rfl rfl, gt_t1 8 rfl rfl, ⟨by decide, by decide, by decide +kernel⟩, by decide⟩, gt_t5 125 rfl rfl, gt_t5 126 rfl rfl⟩
set_option maxRecDepth 20000 in
theorem gX7_second : XMv mX7_second 1 := ⟨⟨gt_t5 131 rfl rfl, gt_t1 8 rfl rfl, ⟨by decide, by decide, by decide +kernel⟩, by decide⟩, gt_t5 129 rfl rfl, gt_t5 130 rfl rfl⟩
set_option maxRecDepth 20000 in
theorem gX7_mean : XMv mX7_mean 2 := ⟨⟨gt_t5 136 rfl rfl, gt_t1 8 rfl rfl, ⟨by decide, by decide, by decide +kernel⟩, by decide⟩, gt_t5 134 rfl rfl, gt_t5 135 rfl rfl⟩
set_option maxRecDepth 20000 in
theorem gX7_lowest : XMs mX7_lowest 3 := ⟨⟨gt_t5 140 rfl rfl, gt_t1 8 rfl rfl, ⟨by decide, by decide, by decide +kernel⟩, by decide⟩, gt_t5 139 rfl rfl⟩
set_option maxRecDepth 20000 in
theorem gX7_landings : XMv mX7_landings 1 := ⟨⟨gt_t5 144 rfl rfl, gt_t1 8 rfl rfl, ⟨by decide, by decide, by decide +kernel⟩, by decide⟩, gt_t5 142 rfl rfl, gt_t5 143 rfl rfl⟩
set_option maxRecDepth 20000 in
theorem gX7_landingsBad : XMv mX7_landingsBad 1 := ⟨⟨gt_t5 148 rfl rfl, gt_t1 8 rfl rfl, ⟨by decide, by decide, by decide +kernel⟩, by decide⟩, gt_t5 147 rfl rfl, gt_in (List.mem_append_left _ (List.mem_of_getElem? (i := 60) rfl)) rfl⟩
set_option maxRecDepth 20000 in
theorem gX7_isSheet : XMs mX7_isSheet 1 := ⟨⟨gt_t5 151 rfl rfl, gt_t1 8 rfl rfl, ⟨by decide, by decide, by decide +kernel⟩, by decide⟩, gt_t5 150 rfl rfl⟩
set_option maxRecDepth 20000 in
theorem gX7_unlikeAt : XMv mX7_unlikeAt 1 := ⟨⟨gt_t5 156 rfl rfl, gt_t1 8 rfl rfl, ⟨by decide, by decide, by decide +kernel⟩, by decide⟩, gt_t5 155 rfl rfl, gt_in (List.mem_append_left _ (List.mem_of_getElem? (i := 61) rfl)) rfl⟩
set_option maxRecDepth 20000 in
theorem gX7_seen : XMv mX7_seen 3 := ⟨⟨gt_t5 160 rfl rfl, gt_t1 8 rfl rfl, ⟨by decide, by decide, by decide +kernel⟩, by decide⟩, gt_t5 158 rfl rfl, gt_t5 159 rfl rfl⟩
set_option maxRecDepth 20000 in
theorem gX7_lays : XMv mX7_lays 3 := ⟨⟨gt_t5 164 rfl rfl, gt_t1 8 rfl rfl, ⟨by decide, by decide, by decide +kernel⟩, by decide⟩, gt_t5 163 rfl rfl, gt_in (List.mem_append_left _ (List.mem_of_getElem? (i := 62) rfl)) rfl⟩
set_option maxRecDepth 20000 in
theorem gX7_film : XMv mX7_film 2 := ⟨⟨gt_t5 168 rfl rfl, gt_t1 8 rfl rfl, ⟨by decide, by decide, by decide +kernel⟩, by decide⟩, gt_t5 166 rfl rfl, gt_t5 167 rfl rfl⟩
set_option maxRecDepth 20000 in
theorem gX7_sheet : XMv mX7_sheet 3 := ⟨⟨gt_t5 172 rfl rfl, gt_t1 8 rfl rfl, ⟨by decide, by decide, by decide +kernel⟩, by decide⟩, gt_t5 170 rfl rfl, gt_t5 171 rfl rfl⟩
set_option maxRecDepth 20000 in
theorem gX7_drawn : XMv mX7_drawn 1 := ⟨⟨gt_t5 177 rfl rfl, gt_t1 8 rfl rfl, ⟨by decide, by decide, by decide +kernel⟩, by decide⟩, gt_t5 175 rfl rfl, gt_t5 176 rfl rfl⟩
set_option maxRecDepth 20000 in
theorem gX7_draws : XMv mX7_draws 1 := ⟨⟨gt_t5 181 rfl rfl, gt_t1 8 rfl rfl, ⟨by decide, by decide, by decide +kernel⟩, by decide⟩, gt_t5 180 rfl rfl, gt_in (List.mem_append_left _ (List.mem_of_getElem? (i := 63) rfl)) rfl⟩
set_option maxRecDepth 20000 in
theorem gX7_chance : XMv mX7_chance 3 := ⟨⟨gt_t5 186 rfl rfl, gt_t1 8 rfl rfl, ⟨by decide, by decide, by decide +kernel⟩, by decide⟩, gt_t5 184 rfl rfl, gt_t5 185 rfl rfl⟩
set_option maxRecDepth 20000 in
theorem gX7_image : XMv mX7_image 0 := ⟨⟨gt_t5 191 rfl rfl, gt_t1 8 rfl rfl, ⟨by decide, by decide, by decide +kernel⟩, by decide⟩, gt_t5 189 rfl rfl, gt_t5 190 rfl rfl⟩
set_option maxRecDepth 20000 in
theorem gX7_back : XMv mX7_back 0 := ⟨⟨gt_t5 195 rfl rfl, gt_t1 8 rfl rfl, ⟨by decide, by decide, by decide +kernel⟩, by decide⟩, gt_t5 193 rfl rfl, gt_t5 194 rfl rfl⟩
set_option maxRecDepth 20000 in
theorem gX7_count : XMv mX7_count 1 := ⟨⟨gt_t5 199 rfl rfl, gt_t1 8 rfl rfl, ⟨by decide, by decide, by decide +kernel⟩, by decide⟩, gt_t5 197 rfl rfl, gt_t5 198 rfl rfl⟩
set_option maxRecDepth 20000 in
theorem gX7_cell : XMv mX7_cell 3 := ⟨⟨gt_t5 205 rfl rfl, gt_t1 8 rfl rfl, ⟨by decide, by decide, by decide +kernel⟩, by decide⟩, gt_t5 203 rfl rfl, gt_t5 204 rfl rfl⟩
set_option maxRecDepth 20000 in
theorem gX7_copy : XMv mX7_copy 5 := ⟨⟨gt_t5 209 rfl rfl, gt_t1 8 rfl rfl, ⟨by decide, by decide, by decide +kernel⟩, by decide⟩, gt_t5 207 rfl rfl, gt_t5 208 rfl rfl⟩
set_option maxRecDepth 20000 in
theorem gX7_riders : XMv mX7_riders 4 := ⟨⟨gt_t5 213 rfl rfl, gt_t1 8 rfl rfl, ⟨by decide, by decide, by decide +kernel⟩, by decide⟩, gt_t5 211 rfl rfl, gt_t5 212 rfl rfl⟩
set_option maxRecDepth 20000 in
theorem gX7_taken : XMv mX7_taken 2 := ⟨⟨gt_t5 218 rfl rfl, gt_t1 8 rfl rfl, ⟨by decide, by decide, by decide +kernel⟩, by decide⟩, gt_t5 216 rfl rfl, gt_t5 217 rfl rfl⟩
set_option maxRecDepth 20000 in
theorem gX7_over : XMs mX7_over 1 := ⟨⟨gt_t5 221 rfl rfl, gt_t1 8 rfl rfl, ⟨by decide, by decide, by decide +kernel⟩, by decide⟩, gt_t5 220 rfl rfl⟩
set_option maxRecDepth 20000 in
theorem iz_L : Cond.initialized RL ∈ GT := gt_t1 0 rfl rfl
set_option maxRecDepth 20000 in
theorem iz_X6 : Cond.initialized RX6 ∈ GT := gt_t1 1 rfl rfl
set_option maxRecDepth 20000 in
theorem iz_X0 : Cond.initialized RX0 ∈ GT := gt_t1 2 rfl rfl
set_option maxRecDepth 20000 in
theorem iz_X1 : Cond.initialized RX1 ∈ GT := gt_t1 3 rfl rfl
set_option maxRecDepth 20000 in
theorem iz_X5 : Cond.initialized RX5 ∈ GT := gt_t1 4 rfl rfl
set_option maxRecDepth 20000 in
theorem iz_X2 : Cond.initialized RX2 ∈ GT := gt_t1 5 rfl rfl
set_option maxRecDepth 20000 in
theorem iz_X4 : Cond.initialized RX4 ∈ GT := gt_t1 6 rfl rfl
set_option maxRecDepth 20000 in
theorem iz_X3 : Cond.initialized RX3 ∈ GT := gt_t1 7 rfl rfl
set_option maxRecDepth 20000 in
theorem iz_X7 : Cond.initialized RX7 ∈ GT := gt_t1 8 rfl rfl
set_option maxRecDepth 20000 in
theorem iz_J0 : Cond.initialized RJ0 ∈ GT := gt_t1 9 rfl rfl
set_option maxRecDepth 20000 in
theorem iz_J1 : Cond.initialized RJ1 ∈ GT := gt_t1 10 rfl rfl
set_option maxRecDepth 20000 in
theorem iz_J3 : Cond.initialized RJ3 ∈ GT := gt_t1 11 rfl rfl
set_option maxRecDepth 20000 in
theorem iz_J7 : Cond.initialized RJ7 ∈ GT := gt_t1 13 rfl rfl
set_option maxRecDepth 20000 in
theorem iz_J9 : Cond.initialized RJ9 ∈ GT := gt_t1 14 rfl rfl
set_option maxRecDepth 20000 in
theorem iz_J10 : Cond.initialized "java/lang/System" ∈ GT := gt_t1 15 rfl rfl
set_option maxRecDepth 20000 in
theorem iz_J6 : Cond.initialized RJ6 ∈ GT := gt_t1 16 rfl rfl
set_option maxRecDepth 20000 in
theorem n_L_7 : Cond.classLink RL 7 RX6 ∈ GT := gt_t1 17 rfl rfl
set_option maxRecDepth 20000 in
theorem ia_X6 : Cond.instantiable RX6 9 ∈ GT := gt_t1 18 rfl rfl
set_option maxRecDepth 20000 in
theorem l_L_9 : Cond.methodLink RL 9 yX6_init ∈ GT := gt_t1 19 rfl rfl
set_option maxRecDepth 20000 in
theorem l_X6_1 : Cond.methodLink RX6 1 Lib.objectInit ∈ GT := gt_t1 22 rfl rfl
set_option maxRecDepth 20000 in
theorem oi_inst : Cond.instanceMethod Lib.objectInit ∈ GT := gt_t1 23 rfl rfl
set_option maxRecDepth 20000 in
theorem oi_code : Cond.code Lib.objectInit ⟨#[0xb1]⟩ 1 none ∈ GT := gt_t1 24 rfl rfl
set_option maxRecDepth 20000 in
theorem n_X6_7 : Cond.classLink RX6 7 RX0 ∈ GT := gt_t1 25 rfl rfl
set_option maxRecDepth 20000 in
theorem ia_X0 : Cond.instantiable RX0 10 ∈ GT := gt_t1 26 rfl rfl
set_option maxRecDepth 20000 in
theorem l_X0_3 : Cond.methodLink RX0 3 Lib.objectInit ∈ GT := gt_t1 30 rfl rfl
set_option maxRecDepth 20000 in
theorem ac_int : Cond.arrayClass .int ∈ GT := gt_t1 81 rfl rfl
set_option maxRecDepth 20000 in
theorem n_X6_19 : Cond.classLink RX6 19 RX1 ∈ GT := gt_t1 82 rfl rfl
set_option maxRecDepth 20000 in
theorem ia_X1 : Cond.instantiable RX1 9 ∈ GT := gt_t1 83 rfl rfl
set_option maxRecDepth 20000 in
theorem l_X1_3 : Cond.methodLink RX1 3 Lib.objectInit ∈ GT := gt_t1 87 rfl rfl
set_option maxRecDepth 20000 in
theorem n_X6_26 : Cond.classLink RX6 26 RX4 ∈ GT := gt_t1 119 rfl rfl
set_option maxRecDepth 20000 in
theorem n_X6_32 : Cond.classLink RX6 32 RX3 ∈ GT := gt_t1 121 rfl rfl
set_option maxRecDepth 20000 in
theorem n_X6_38 : Cond.classLink RX6 38 RX5 ∈ GT := gt_t1 123 rfl rfl
set_option maxRecDepth 20000 in
theorem ia_X5 : Cond.instantiable RX5 10 ∈ GT := gt_t1 124 rfl rfl
set_option maxRecDepth 20000 in
theorem l_X5_3 : Cond.methodLink RX5 3 Lib.objectInit ∈ GT := gt_t1 128 rfl rfl
set_option maxRecDepth 20000 in
theorem n_X5_9 : Cond.classLink RX5 9 RX0 ∈ GT := gt_t1 129 rfl rfl
set_option maxRecDepth 20000 in
theorem n_X6_45 : Cond.classLink RX6 45 RX2 ∈ GT := gt_t1 164 rfl rfl
set_option maxRecDepth 20000 in
theorem ia_X2 : Cond.instantiable RX2 4 ∈ GT := gt_t1 165 rfl rfl
set_option maxRecDepth 20000 in
theorem l_X2_3 : Cond.methodLink RX2 3 Lib.objectInit ∈ GT := gt_t1 169 rfl rfl
set_option maxRecDepth 20000 in
theorem n_X2_9 : Cond.classLink RX2 9 RX0 ∈ GT := gt_t1 170 rfl rfl
set_option maxRecDepth 20000 in
theorem ia_X4 : Cond.instantiable RX4 2 ∈ GT := gt_t1 187 rfl rfl
set_option maxRecDepth 20000 in
theorem l_X6_52 : Cond.methodLink RX6 52 yX4_init ∈ GT := gt_t1 188 rfl rfl
set_option maxRecDepth 20000 in
theorem l_X4_3 : Cond.methodLink RX4 3 Lib.objectInit ∈ GT := gt_t1 191 rfl rfl
set_option maxRecDepth 20000 in
theorem ia_X3 : Cond.instantiable RX3 3 ∈ GT := gt_t1 199 rfl rfl
set_option maxRecDepth 20000 in
theorem l_X3_3 : Cond.methodLink RX3 3 Lib.objectInit ∈ GT := gt_t1 203 rfl rfl
set_option maxRecDepth 20000 in
theorem l_L_13 : Cond.methodLink RL 13 yX6_rider ∈ GT := gt_t2 5 rfl rfl
set_option maxRecDepth 20000 in
theorem l_X6_60 : Cond.methodLink RX6 60 yX6_comeIn ∈ GT := gt_t2 9 rfl rfl
set_option maxRecDepth 20000 in
theorem l_X6_95 : Cond.methodLink RX6 95 yX6_isWay ∈ GT := gt_t2 13 rfl rfl
set_option maxRecDepth 20000 in
theorem l_X6_119 : Cond.methodLink RX6 119 yX0_canStand ∈ GT := gt_t2 16 rfl rfl
set_option maxRecDepth 20000 in
theorem l_L_18 : Cond.methodLink RL 18 yX6_set ∈ GT := gt_t2 20 rfl rfl
set_option maxRecDepth 20000 in
theorem l_X6_64 : Cond.methodLink RX6 64 yX6_putDoors ∈ GT := gt_t2 24 rfl rfl
set_option maxRecDepth 20000 in
theorem l_X6_68 : Cond.methodLink RX6 68 yX0_has ∈ GT := gt_t2 28 rfl rfl
set_option maxRecDepth 20000 in
theorem l_X6_72 : Cond.methodLink RX6 72 yX6_leastOf ∈ GT := gt_t2 32 rfl rfl
set_option maxRecDepth 20000 in
theorem l_X6_76 : Cond.methodLink RX6 76 yX6_mostOf ∈ GT := gt_t2 36 rfl rfl
set_option maxRecDepth 20000 in
theorem l_X6_79 : Cond.methodLink RX6 79 yX0_rowOf ∈ GT := gt_t2 39 rfl rfl
set_option maxRecDepth 20000 in
theorem l_X6_83 : Cond.methodLink RX6 83 yX6_put ∈ GT := gt_t2 43 rfl rfl
set_option maxRecDepth 20000 in
theorem l_L_22 : Cond.methodLink RL 22 yX6_told ∈ GT := gt_t2 47 rfl rfl
set_option maxRecDepth 20000 in
theorem l_L_27 : Cond.methodLink RL 27 yX6_lets ∈ GT := gt_t2 51 rfl rfl
set_option maxRecDepth 20000 in
theorem l_X6_91 : Cond.methodLink RX6 91 yX0_letsBy ∈ GT := gt_t2 55 rfl rfl
set_option maxRecDepth 20000 in
theorem l_L_31 : Cond.methodLink RL 31 yX6_feed ∈ GT := gt_t2 59 rfl rfl
set_option maxRecDepth 20000 in
theorem l_L_36 : Cond.methodLink RL 36 yX6_text ∈ GT := gt_t2 63 rfl rfl
set_option maxRecDepth 20000 in
theorem l_X6_131 : Cond.methodLink RX6 131 yX1_reads ∈ GT := gt_t2 67 rfl rfl
set_option maxRecDepth 20000 in
theorem l_X1_28 : Cond.methodLink RX1 28 yX1_step ∈ GT := gt_t2 71 rfl rfl
set_option maxRecDepth 20000 in
theorem l_X1_78 : Cond.methodLink RX1 78 yX1_stepOverWord ∈ GT := gt_t2 75 rfl rfl
set_option maxRecDepth 20000 in
theorem l_X1_87 : Cond.methodLink RX1 87 yX1_knownWord ∈ GT := gt_t2 79 rfl rfl
set_option maxRecDepth 20000 in
theorem l_X1_91 : Cond.methodLink RX1 91 yX1_isWord ∈ GT := gt_t2 94 rfl rfl
set_option maxRecDepth 20000 in
theorem l_X1_95 : Cond.methodLink RX1 95 yJ0_length_8abf5 ∈ GT := gt_t2 98 rfl rfl
set_option maxRecDepth 20000 in
theorem l_J0_335 : Cond.methodLink RJ0 335 yJ0_coder_7d493 ∈ GT := gt_t2 102 rfl rfl
set_option maxRecDepth 20000 in
theorem l_X1_100 : Cond.methodLink RX1 100 yJ0_charAt_5068e ∈ GT := gt_t2 108 rfl rfl
set_option maxRecDepth 20000 in
theorem l_J0_492 : Cond.methodLink RJ0 492 yJ0_isLatin1_aae02 ∈ GT := gt_t2 112 rfl rfl
set_option maxRecDepth 20000 in
theorem l_J0_495 : Cond.methodLink RJ0 495 yJ1_charAt_3b067 ∈ GT := gt_t2 116 rfl rfl
set_option maxRecDepth 20000 in
theorem l_J1_9 : Cond.methodLink RJ1 9 yJ0_checkIndex_df160 ∈ GT := gt_t2 119 rfl rfl
set_option maxRecDepth 20000 in
theorem l_J0_1059 : Cond.methodLink RJ0 1059 yJ3_checkIndex_8e157 ∈ GT := gt_t2 124 rfl rfl
set_option maxRecDepth 20000 in
theorem l_X1_81 : Cond.methodLink RX1 81 yX1_stepOverDigits ∈ GT := gt_t2 146 rfl rfl
set_option maxRecDepth 20000 in
theorem l_X1_84 : Cond.methodLink RX1 84 yX1_isSign ∈ GT := gt_t2 150 rfl rfl
set_option maxRecDepth 20000 in
theorem l_X1_31 : Cond.methodLink RX1 31 yX1_passes ∈ GT := gt_t2 153 rfl rfl
set_option maxRecDepth 20000 in
theorem l_X1_35 : Cond.methodLink RX1 35 yX1_chain ∈ GT := gt_t2 157 rfl rfl
set_option maxRecDepth 20000 in
theorem l_X1_53 : Cond.methodLink RX1 53 yX1_perhapsNot ∈ GT := gt_t2 161 rfl rfl
set_option maxRecDepth 20000 in
theorem l_X1_59 : Cond.methodLink RX1 59 yX1_put ∈ GT := gt_t2 165 rfl rfl
set_option maxRecDepth 20000 in
theorem l_X1_66 : Cond.methodLink RX1 66 yX1_codeOf ∈ GT := gt_t2 169 rfl rfl
set_option maxRecDepth 20000 in
theorem l_X1_56 : Cond.methodLink RX1 56 yX1_single ∈ GT := gt_t2 172 rfl rfl
set_option maxRecDepth 20000 in
theorem l_X1_62 : Cond.methodLink RX1 62 yX1_levelOf ∈ GT := gt_t2 176 rfl rfl
set_option maxRecDepth 20000 in
theorem l_X6_138 : Cond.methodLink RX6 138 yX1_whatWasRead ∈ GT := gt_t2 179 rfl rfl
set_option maxRecDepth 20000 in
theorem n_X1_42 : Cond.classLink RX1 42 RX4 ∈ GT := gt_t2 183 rfl rfl
set_option maxRecDepth 20000 in
theorem l_X1_44 : Cond.methodLink RX1 44 yJ7_copyOf_59c91 ∈ GT := gt_t2 184 rfl rfl
set_option maxRecDepth 20000 in
theorem l_J7_316 : Cond.methodLink RJ7 316 ⟨"[I", "clone", "()Ljava/lang/Object;"⟩ ∈ GT := gt_t2 187 rfl rfl
set_option maxRecDepth 20000 in
theorem n_J7_317 : Cond.classLink RJ7 317 "[I" ∈ GT := gt_t2 193 rfl rfl
set_option maxRecDepth 20000 in
theorem l_J7_304 : Cond.methodLink RJ7 304 yJ9_min_7cf53 ∈ GT := gt_t2 194 rfl rfl
set_option maxRecDepth 20000 in
theorem l_J7_150 : Cond.methodLink RJ7 150 arraycopyName ∈ GT := gt_t2 197 rfl rfl
set_option maxRecDepth 20000 in
theorem ay_static : Cond.static arraycopyName ∈ GT := gt_t2 198 rfl rfl
set_option maxRecDepth 20000 in
theorem ay_native : Cond.native arraycopyName ∈ GT := gt_t2 199 rfl rfl
set_option maxRecDepth 20000 in
theorem l_X1_50 : Cond.methodLink RX1 50 yX4_init ∈ GT := gt_t2 200 rfl rfl
set_option maxRecDepth 20000 in
theorem ac_byte : Cond.arrayClass .byte ∈ GT := gt_t2 201 rfl rfl
set_option maxRecDepth 20000 in
theorem l_L_41 : Cond.methodLink RL 41 yX6_force ∈ GT := gt_t2 202 rfl rfl
set_option maxRecDepth 20000 in
theorem l_L_45 : Cond.methodLink RL 45 yX6_ride ∈ GT := gt_t2 206 rfl rfl
set_option maxRecDepth 20000 in
theorem l_X6_145 : Cond.methodLink RX6 145 yX6_setOut ∈ GT := gt_t2 210 rfl rfl
set_option maxRecDepth 20000 in
theorem l_X6_167 : Cond.methodLink RX6 167 yX5_start ∈ GT := gt_t2 214 rfl rfl
set_option maxRecDepth 20000 in
theorem l_X5_45 : Cond.methodLink RX5 45 yX0_become ∈ GT := gt_t2 218 rfl rfl
set_option maxRecDepth 20000 in
theorem l_X0_37 : Cond.methodLink RX0 37 yX0_rowOf ∈ GT := gt_t2 222 rfl rfl
set_option maxRecDepth 20000 in
theorem l_X0_41 : Cond.methodLink RX0 41 arraycopyName ∈ GT := gt_t2 223 rfl rfl
set_option maxRecDepth 20000 in
theorem l_X5_57 : Cond.methodLink RX5 57 yX5_gather ∈ GT := gt_t2 224 rfl rfl
set_option maxRecDepth 20000 in
theorem l_X5_61 : Cond.methodLink RX5 61 yJ7_fill_53178 ∈ GT := gt_t2 228 rfl rfl
set_option maxRecDepth 20000 in
theorem l_X5_73 : Cond.methodLink RX5 73 yX5_settle ∈ GT := gt_t2 231 rfl rfl
set_option maxRecDepth 20000 in
theorem l_X5_76 : Cond.methodLink RX5 76 yX5_meet ∈ GT := gt_t2 235 rfl rfl
set_option maxRecDepth 20000 in
theorem l_X5_85 : Cond.methodLink RX5 85 yX0_letsBy ∈ GT := gt_t2 239 rfl rfl
set_option maxRecDepth 20000 in
theorem l_X6_148 : Cond.methodLink RX6 148 yX5_cost ∈ GT := gt_t3 0 rfl rfl
set_option maxRecDepth 20000 in
theorem k_X5_109 : Cond.constant RX5 109 (2147483647 : Int32) ∈ GT := gt_t3 4 rfl rfl
set_option maxRecDepth 20000 in
theorem l_X5_110 : Cond.methodLink RX5 110 yX5_costBelow ∈ GT := gt_t3 5 rfl rfl
set_option maxRecDepth 20000 in
theorem l_X5_113 : Cond.methodLink RX5 113 yX5_whoStepsOut ∈ GT := gt_t3 9 rfl rfl
set_option maxRecDepth 20000 in
theorem l_X5_89 : Cond.methodLink RX5 89 yX5_whoMakesWay ∈ GT := gt_t3 13 rfl rfl
set_option maxRecDepth 20000 in
theorem l_X5_96 : Cond.methodLink RX5 96 yJ6_bitCount_0f7a4 ∈ GT := gt_t3 17 rfl rfl
set_option maxRecDepth 20000 in
theorem k_J6_265 : Cond.constant RJ6 265 (1431655765 : Int32) ∈ GT := gt_t3 20 rfl rfl
set_option maxRecDepth 20000 in
theorem k_J6_266 : Cond.constant RJ6 266 (858993459 : Int32) ∈ GT := gt_t3 21 rfl rfl
set_option maxRecDepth 20000 in
theorem k_J6_267 : Cond.constant RJ6 267 (252645135 : Int32) ∈ GT := gt_t3 22 rfl rfl
set_option maxRecDepth 20000 in
theorem l_X5_116 : Cond.methodLink RX5 116 yX5_costAt ∈ GT := gt_t3 23 rfl rfl
set_option maxRecDepth 20000 in
theorem l_X5_102 : Cond.methodLink RX5 102 yX5_price ∈ GT := gt_t3 27 rfl rfl
set_option maxRecDepth 20000 in
theorem l_X5_122 : Cond.methodLink RX5 122 yX4_worth ∈ GT := gt_t3 31 rfl rfl
set_option maxRecDepth 20000 in
theorem l_X5_126 : Cond.methodLink RX5 126 yJ9_min_7cf53 ∈ GT := gt_t3 35 rfl rfl
set_option maxRecDepth 20000 in
theorem l_X5_131 : Cond.methodLink RX5 131 yJ9_max_7cf53 ∈ GT := gt_t3 36 rfl rfl
set_option maxRecDepth 20000 in
theorem l_X5_106 : Cond.methodLink RX5 106 yX0_costToStepOut ∈ GT := gt_t3 39 rfl rfl
set_option maxRecDepth 20000 in
theorem l_X0_57 : Cond.methodLink RX0 57 yJ9_max_7cf53 ∈ GT := gt_t3 43 rfl rfl
set_option maxRecDepth 20000 in
theorem l_X6_152 : Cond.methodLink RX6 152 yX5_steps ∈ GT := gt_t3 44 rfl rfl
set_option maxRecDepth 20000 in
theorem l_X6_155 : Cond.methodLink RX6 155 yX5_floorsWithSteps ∈ GT := gt_t3 48 rfl rfl
set_option maxRecDepth 20000 in
theorem l_L_49 : Cond.methodLink RL 49 yX6_floor ∈ GT := gt_t3 52 rfl rfl
set_option maxRecDepth 20000 in
theorem l_X6_158 : Cond.methodLink RX6 158 yX5_whoStepsOut ∈ GT := gt_t3 56 rfl rfl
set_option maxRecDepth 20000 in
theorem l_X6_161 : Cond.methodLink RX6 161 yX5_costAt ∈ GT := gt_t3 57 rfl rfl
set_option maxRecDepth 20000 in
theorem l_X6_164 : Cond.methodLink RX6 164 yX5_whoGoesOn ∈ GT := gt_t3 58 rfl rfl
set_option maxRecDepth 20000 in
theorem l_L_53 : Cond.methodLink RL 53 yX6_stand ∈ GT := gt_t3 62 rfl rfl
set_option maxRecDepth 20000 in
theorem l_X6_171 : Cond.methodLink RX6 171 yX2_find ∈ GT := gt_t3 66 rfl rfl
set_option maxRecDepth 20000 in
theorem l_X2_31 : Cond.methodLink RX2 31 yX0_isLike ∈ GT := gt_t3 70 rfl rfl
set_option maxRecDepth 20000 in
theorem l_X2_35 : Cond.methodLink RX2 35 yX0_become ∈ GT := gt_t3 74 rfl rfl
set_option maxRecDepth 20000 in
theorem l_X2_39 : Cond.methodLink RX2 39 yX5_cost ∈ GT := gt_t3 75 rfl rfl
set_option maxRecDepth 20000 in
theorem l_X2_47 : Cond.methodLink RX2 47 yX2_putFrom ∈ GT := gt_t3 76 rfl rfl
set_option maxRecDepth 20000 in
theorem l_X2_54 : Cond.methodLink RX2 54 yX5_costBelow ∈ GT := gt_t3 80 rfl rfl
set_option maxRecDepth 20000 in
theorem l_X2_61 : Cond.methodLink RX2 61 arraycopyName ∈ GT := gt_t3 81 rfl rfl
set_option maxRecDepth 20000 in
theorem l_X2_67 : Cond.methodLink RX2 67 yX0_canStand ∈ GT := gt_t3 82 rfl rfl
set_option maxRecDepth 20000 in
theorem l_X2_71 : Cond.methodLink RX2 71 yX5_meet ∈ GT := gt_t3 83 rfl rfl
set_option maxRecDepth 20000 in
theorem l_X2_75 : Cond.methodLink RX2 75 yX5_costToMove ∈ GT := gt_t3 84 rfl rfl
set_option maxRecDepth 20000 in
theorem l_L_57 : Cond.methodLink RL 57 yX6_one ∈ GT := gt_t3 88 rfl rfl
set_option maxRecDepth 20000 in
theorem l_X6_182 : Cond.methodLink RX6 182 yX5_settle ∈ GT := gt_t3 92 rfl rfl
set_option maxRecDepth 20000 in
theorem l_X6_185 : Cond.methodLink RX6 185 yX5_costToMove ∈ GT := gt_t3 93 rfl rfl
set_option maxRecDepth 20000 in
theorem l_L_61 : Cond.methodLink RL 61 yX6_change ∈ GT := gt_t3 94 rfl rfl
set_option maxRecDepth 20000 in
theorem l_X6_188 : Cond.methodLink RX6 188 yX6_costOfChanging ∈ GT := gt_t3 98 rfl rfl
set_option maxRecDepth 20000 in
theorem l_X6_211 : Cond.methodLink RX6 211 yX0_allCanStand ∈ GT := gt_t3 102 rfl rfl
set_option maxRecDepth 20000 in
theorem l_X0_53 : Cond.methodLink RX0 53 yX0_canStand ∈ GT := gt_t3 106 rfl rfl
set_option maxRecDepth 20000 in
theorem l_L_65 : Cond.methodLink RL 65 yX6_second ∈ GT := gt_t3 107 rfl rfl
set_option maxRecDepth 20000 in
theorem k_X6_191 : Cond.constant RX6 191 (-100000 : Int32) ∈ GT := gt_t3 111 rfl rfl
set_option maxRecDepth 20000 in
theorem l_X6_192 : Cond.methodLink RX6 192 yX6_whoShouldWalk ∈ GT := gt_t3 112 rfl rfl
set_option maxRecDepth 20000 in
theorem l_X6_203 : Cond.methodLink RX6 203 yX5_gather ∈ GT := gt_t3 116 rfl rfl
set_option maxRecDepth 20000 in
theorem l_L_69 : Cond.methodLink RL 69 yX6_stands ∈ GT := gt_t3 117 rfl rfl
set_option maxRecDepth 20000 in
theorem l_L_73 : Cond.methodLink RL 73 yX6_mean ∈ GT := gt_t3 121 rfl rfl
set_option maxRecDepth 20000 in
theorem k_X6_195 : Cond.constantLong RX6 195 (-4611686018427387904 : Int64) ∈ GT := gt_t3 125 rfl rfl
set_option maxRecDepth 20000 in
theorem k_X6_197 : Cond.constantLong RX6 197 (100 : Int64) ∈ GT := gt_t3 126 rfl rfl
set_option maxRecDepth 20000 in
theorem l_X6_199 : Cond.methodLink RX6 199 yX6_weightOf ∈ GT := gt_t3 127 rfl rfl
set_option maxRecDepth 20000 in
theorem l_X6_207 : Cond.methodLink RX6 207 yX6_inLowestTerms ∈ GT := gt_t3 131 rfl rfl
set_option maxRecDepth 20000 in
theorem l_L_78 : Cond.methodLink RL 78 yX6_landings ∈ GT := gt_t3 134 rfl rfl
set_option maxRecDepth 20000 in
theorem l_X6_214 : Cond.methodLink RX6 214 yX6_isSheet ∈ GT := gt_t3 138 rfl rfl
set_option maxRecDepth 20000 in
theorem l_X6_217 : Cond.methodLink RX6 217 yX6_refusalToRead ∈ GT := gt_t3 141 rfl rfl
set_option maxRecDepth 20000 in
theorem l_X6_245 : Cond.methodLink RX6 245 yX3_isMissing ∈ GT := gt_t3 144 rfl rfl
set_option maxRecDepth 20000 in
theorem l_X6_221 : Cond.methodLink RX6 221 yX6_firstUnlike ∈ GT := gt_t3 148 rfl rfl
set_option maxRecDepth 20000 in
theorem l_L_82 : Cond.methodLink RL 82 yX6_seen ∈ GT := gt_t3 152 rfl rfl
set_option maxRecDepth 20000 in
theorem l_X6_224 : Cond.methodLink RX6 224 yX6_whichFit ∈ GT := gt_t3 156 rfl rfl
set_option maxRecDepth 20000 in
theorem l_L_86 : Cond.methodLink RL 86 yX6_film ∈ GT := gt_t3 160 rfl rfl
set_option maxRecDepth 20000 in
theorem l_X6_228 : Cond.methodLink RX6 228 yX3_become ∈ GT := gt_t3 164 rfl rfl
set_option maxRecDepth 20000 in
theorem l_X3_22 : Cond.methodLink RX3 22 yJ7_fill_53178 ∈ GT := gt_t3 168 rfl rfl
set_option maxRecDepth 20000 in
theorem l_L_90 : Cond.methodLink RL 90 yX6_drawn ∈ GT := gt_t3 169 rfl rfl
set_option maxRecDepth 20000 in
theorem l_X6_235 : Cond.methodLink RX6 235 yX6_costOfDrawn ∈ GT := gt_t3 173 rfl rfl
set_option maxRecDepth 20000 in
theorem k_X6_249 : Cond.constant RX6 249 (1103515245 : Int32) ∈ GT := gt_t3 177 rfl rfl
set_option maxRecDepth 20000 in
theorem l_L_94 : Cond.methodLink RL 94 yX6_chance ∈ GT := gt_t3 178 rfl rfl
set_option maxRecDepth 20000 in
theorem l_L_99 : Cond.methodLink RL 99 yX6_image ∈ GT := gt_t3 182 rfl rfl
set_option maxRecDepth 20000 in
theorem l_X6_238 : Cond.methodLink RX6 238 yX0_become ∈ GT := gt_t3 186 rfl rfl
set_option maxRecDepth 20000 in
theorem l_L_103 : Cond.methodLink RL 103 yX6_back ∈ GT := gt_t3 187 rfl rfl
set_option maxRecDepth 20000 in
theorem l_L_107 : Cond.methodLink RL 107 yX6_count ∈ GT := gt_t3 191 rfl rfl
set_option maxRecDepth 20000 in
theorem l_L_111 : Cond.methodLink RL 111 yX6_sheet ∈ GT := gt_t3 195 rfl rfl
set_option maxRecDepth 20000 in
theorem l_L_115 : Cond.methodLink RL 115 yX6_cell ∈ GT := gt_t3 199 rfl rfl
set_option maxRecDepth 20000 in
theorem l_X6_250 : Cond.methodLink RX6 250 yX3_narrowed ∈ GT := gt_t3 203 rfl rfl
set_option maxRecDepth 20000 in
theorem l_L_119 : Cond.methodLink RL 119 yX6_copy ∈ GT := gt_t3 207 rfl rfl
set_option maxRecDepth 20000 in
theorem l_X6_256 : Cond.methodLink RX6 256 yX3_holds ∈ GT := gt_t3 211 rfl rfl
set_option maxRecDepth 20000 in
theorem l_X6_259 : Cond.methodLink RX6 259 arraycopyName ∈ GT := gt_t3 215 rfl rfl
set_option maxRecDepth 20000 in
theorem l_L_124 : Cond.methodLink RL 124 yX6_riders ∈ GT := gt_t3 216 rfl rfl
set_option maxRecDepth 20000 in
theorem l_L_129 : Cond.methodLink RL 129 yX6_taken ∈ GT := gt_t3 220 rfl rfl
set_option maxRecDepth 20000 in
theorem l_X6_265 : Cond.methodLink RX6 265 yX6_isUnder ∈ GT := gt_t3 224 rfl rfl
set_option maxRecDepth 20000 in
theorem n_L_10 : Cond.classLink RL 10 RX7 ∈ GT := gt_t3 229 rfl rfl
set_option maxRecDepth 20000 in
theorem ia_X7 : Cond.instantiable RX7 49 ∈ GT := gt_t3 230 rfl rfl
set_option maxRecDepth 20000 in
theorem l_L_12 : Cond.methodLink RL 12 yX7_init ∈ GT := gt_t3 231 rfl rfl
set_option maxRecDepth 20000 in
theorem l_X7_7 : Cond.methodLink RX7 7 Lib.objectInit ∈ GT := gt_t3 234 rfl rfl
set_option maxRecDepth 20000 in
theorem l_X7_81 : Cond.methodLink RX7 81 yX7_spell ∈ GT := gt_t3 235 rfl rfl
set_option maxRecDepth 20000 in
theorem ac_boolean : Cond.arrayClass .boolean ∈ GT := gt_t4 146 rfl rfl
set_option maxRecDepth 20000 in
theorem l_L_17 : Cond.methodLink RL 17 yX7_rider ∈ GT := gt_t4 147 rfl rfl
set_option maxRecDepth 20000 in
theorem k_X7_95 : Cond.constantLong RX7 95 (5 : Int64) ∈ GT := gt_t4 151 rfl rfl
set_option maxRecDepth 20000 in
theorem l_X7_91 : Cond.methodLink RX7 91 yX7_in ∈ GT := gt_t4 152 rfl rfl
set_option maxRecDepth 20000 in
theorem k_X7_97 : Cond.constantLong RX7 97 (99 : Int64) ∈ GT := gt_t4 155 rfl rfl
set_option maxRecDepth 20000 in
theorem k_X7_99 : Cond.constantLong RX7 99 (899 : Int64) ∈ GT := gt_t4 156 rfl rfl
set_option maxRecDepth 20000 in
theorem l_X7_101 : Cond.methodLink RX7 101 yX7_areTwo ∈ GT := gt_t4 157 rfl rfl
set_option maxRecDepth 20000 in
theorem l_L_21 : Cond.methodLink RL 21 yX7_set ∈ GT := gt_t4 161 rfl rfl
set_option maxRecDepth 20000 in
theorem l_X7_105 : Cond.methodLink RX7 105 yX7_isRider ∈ GT := gt_t4 165 rfl rfl
set_option maxRecDepth 20000 in
theorem k_X7_108 : Cond.constantLong RX7 108 (2 : Int64) ∈ GT := gt_t4 169 rfl rfl
set_option maxRecDepth 20000 in
theorem k_X7_110 : Cond.constantLong RX7 110 (100 : Int64) ∈ GT := gt_t4 170 rfl rfl
set_option maxRecDepth 20000 in
theorem k_X7_112 : Cond.constantLong RX7 112 (9 : Int64) ∈ GT := gt_t4 171 rfl rfl
set_option maxRecDepth 20000 in
theorem l_X7_114 : Cond.methodLink RX7 114 yX7_told ∈ GT := gt_t4 172 rfl rfl
set_option maxRecDepth 20000 in
theorem k_X7_122 : Cond.constantLong RX7 122 (6 : Int64) ∈ GT := gt_t4 176 rfl rfl
set_option maxRecDepth 20000 in
theorem l_X7_118 : Cond.methodLink RX7 118 yX7_puts ∈ GT := gt_t4 177 rfl rfl
set_option maxRecDepth 20000 in
theorem l_L_26 : Cond.methodLink RL 26 yX7_told ∈ GT := gt_t4 181 rfl rfl
set_option maxRecDepth 20000 in
theorem l_L_30 : Cond.methodLink RL 30 yX7_lets ∈ GT := gt_t4 182 rfl rfl
set_option maxRecDepth 20000 in
theorem l_X7_124 : Cond.methodLink RX7 124 yX7_doesLet ∈ GT := gt_t4 186 rfl rfl
set_option maxRecDepth 20000 in
theorem l_L_35 : Cond.methodLink RL 35 yX7_feed ∈ GT := gt_t4 190 rfl rfl
set_option maxRecDepth 20000 in
theorem k_X7_128 : Cond.constantLong RX7 128 (255 : Int64) ∈ GT := gt_t4 194 rfl rfl
set_option maxRecDepth 20000 in
theorem l_L_40 : Cond.methodLink RL 40 yX7_text ∈ GT := gt_t4 195 rfl rfl
set_option maxRecDepth 20000 in
theorem l_X7_244 : Cond.methodLink RX7 244 yX7_read ∈ GT := gt_t4 199 rfl rfl
set_option maxRecDepth 20000 in
theorem l_X7_182 : Cond.methodLink RX7 182 yX7_next ∈ GT := gt_t4 203 rfl rfl
set_option maxRecDepth 20000 in
theorem l_X7_142 : Cond.methodLink RX7 142 yX7_byteAt ∈ GT := gt_t4 207 rfl rfl
set_option maxRecDepth 20000 in
theorem k_X7_152 : Cond.constantLong RX7 152 (97 : Int64) ∈ GT := gt_t4 211 rfl rfl
set_option maxRecDepth 20000 in
theorem k_X7_154 : Cond.constantLong RX7 154 (122 : Int64) ∈ GT := gt_t4 212 rfl rfl
set_option maxRecDepth 20000 in
theorem k_X7_156 : Cond.constantLong RX7 156 (48 : Int64) ∈ GT := gt_t4 213 rfl rfl
set_option maxRecDepth 20000 in
theorem k_X7_158 : Cond.constantLong RX7 158 (57 : Int64) ∈ GT := gt_t4 214 rfl rfl
set_option maxRecDepth 20000 in
theorem k_X7_164 : Cond.constantLong RX7 164 (10 : Int64) ∈ GT := gt_t4 215 rfl rfl
set_option maxRecDepth 20000 in
theorem l_X7_185 : Cond.methodLink RX7 185 yX7_isWord ∈ GT := gt_t4 216 rfl rfl
set_option maxRecDepth 20000 in
theorem l_X7_173 : Cond.methodLink RX7 173 yX7_isLetter ∈ GT := gt_t4 220 rfl rfl
set_option maxRecDepth 20000 in
theorem l_X7_240 : Cond.methodLink RX7 240 yX7_part ∈ GT := gt_t4 224 rfl rfl
set_option maxRecDepth 20000 in
theorem l_X7_179 : Cond.methodLink RX7 179 yX7_fail ∈ GT := gt_t4 228 rfl rfl
set_option maxRecDepth 20000 in
theorem l_X7_218 : Cond.methodLink RX7 218 yX7_either ∈ GT := gt_t4 232 rfl rfl
set_option maxRecDepth 20000 in
theorem l_X7_237 : Cond.methodLink RX7 237 yX7_both ∈ GT := gt_t4 236 rfl rfl
set_option maxRecDepth 20000 in
theorem l_X7_229 : Cond.methodLink RX7 229 yX7_not ∈ GT := gt_t5 0 rfl rfl
set_option maxRecDepth 20000 in
theorem l_X7_210 : Cond.methodLink RX7 210 yX7_opens ∈ GT := gt_t5 4 rfl rfl
set_option maxRecDepth 20000 in
theorem l_X7_232 : Cond.methodLink RX7 232 yX7_added ∈ GT := gt_t5 8 rfl rfl
set_option maxRecDepth 20000 in
theorem l_X7_224 : Cond.methodLink RX7 224 yX7_term ∈ GT := gt_t5 12 rfl rfl
set_option maxRecDepth 20000 in
theorem l_X7_214 : Cond.methodLink RX7 214 yX7_atom ∈ GT := gt_t5 16 rfl rfl
set_option maxRecDepth 20000 in
theorem l_X7_207 : Cond.methodLink RX7 207 yX7_isSign ∈ GT := gt_t5 20 rfl rfl
set_option maxRecDepth 20000 in
theorem l_X7_221 : Cond.methodLink RX7 221 yX7_name ∈ GT := gt_t5 24 rfl rfl
set_option maxRecDepth 20000 in
theorem k_X7_227 : Cond.constantLong RX7 227 (43 : Int64) ∈ GT := gt_t5 28 rfl rfl
set_option maxRecDepth 20000 in
theorem k_X7_235 : Cond.constantLong RX7 235 (60 : Int64) ∈ GT := gt_t5 29 rfl rfl
set_option maxRecDepth 20000 in
theorem l_L_44 : Cond.methodLink RL 44 yX7_force ∈ GT := gt_t5 30 rfl rfl
set_option maxRecDepth 20000 in
theorem l_L_48 : Cond.methodLink RL 48 yX7_ride ∈ GT := gt_t5 34 rfl rfl
set_option maxRecDepth 20000 in
theorem l_X7_291 : Cond.methodLink RX7 291 yX7_allRiders ∈ GT := gt_t5 38 rfl rfl
set_option maxRecDepth 20000 in
theorem l_X7_294 : Cond.methodLink RX7 294 yX7_gathers ∈ GT := gt_t5 42 rfl rfl
set_option maxRecDepth 20000 in
theorem l_X7_257 : Cond.methodLink RX7 257 yX7_insideAt ∈ GT := gt_t5 46 rfl rfl
set_option maxRecDepth 20000 in
theorem l_X7_260 : Cond.methodLink RX7 260 yX7_says ∈ GT := gt_t5 50 rfl rfl
set_option maxRecDepth 20000 in
theorem l_X7_250 : Cond.methodLink RX7 250 yX7_within ∈ GT := gt_t5 54 rfl rfl
set_option maxRecDepth 20000 in
theorem l_X7_264 : Cond.methodLink RX7 264 yX7_costsOf ∈ GT := gt_t5 57 rfl rfl
set_option maxRecDepth 20000 in
theorem l_X7_298 : Cond.methodLink RX7 298 yX7_rides ∈ GT := gt_t5 61 rfl rfl
set_option maxRecDepth 20000 in
theorem l_X7_285 : Cond.methodLink RX7 285 yX7_stepsAt ∈ GT := gt_t5 65 rfl rfl
set_option maxRecDepth 20000 in
theorem l_X7_273 : Cond.methodLink RX7 273 yX7_stayingAt ∈ GT := gt_t5 69 rfl rfl
set_option maxRecDepth 20000 in
theorem l_X7_276 : Cond.methodLink RX7 276 yX7_mustFor ∈ GT := gt_t5 73 rfl rfl
set_option maxRecDepth 20000 in
theorem l_X7_267 : Cond.methodLink RX7 267 yX7_barring ∈ GT := gt_t5 77 rfl rfl
set_option maxRecDepth 20000 in
theorem l_X7_270 : Cond.methodLink RX7 270 yX7_bitsOf ∈ GT := gt_t5 81 rfl rfl
set_option maxRecDepth 20000 in
theorem l_X7_288 : Cond.methodLink RX7 288 yX7_costAt ∈ GT := gt_t5 84 rfl rfl
set_option maxRecDepth 20000 in
theorem l_L_52 : Cond.methodLink RL 52 yX7_floor ∈ GT := gt_t5 88 rfl rfl
set_option maxRecDepth 20000 in
theorem l_L_56 : Cond.methodLink RL 56 yX7_stand ∈ GT := gt_t5 92 rfl rfl
set_option maxRecDepth 20000 in
theorem l_X7_319 : Cond.methodLink RX7 319 yX7_seeks ∈ GT := gt_t5 96 rfl rfl
set_option maxRecDepth 20000 in
theorem l_X7_313 : Cond.methodLink RX7 313 yX7_keeps ∈ GT := gt_t5 100 rfl rfl
set_option maxRecDepth 20000 in
theorem l_X7_310 : Cond.methodLink RX7 310 yX7_putsFrom ∈ GT := gt_t5 104 rfl rfl
set_option maxRecDepth 20000 in
theorem l_X7_301 : Cond.methodLink RX7 301 yX7_costOfStanding ∈ GT := gt_t5 108 rfl rfl
set_option maxRecDepth 20000 in
theorem l_X7_316 : Cond.methodLink RX7 316 yX7_laysBack ∈ GT := gt_t5 112 rfl rfl
set_option maxRecDepth 20000 in
theorem l_L_72 : Cond.methodLink RL 72 yX7_stands ∈ GT := gt_t5 116 rfl rfl
set_option maxRecDepth 20000 in
theorem l_L_60 : Cond.methodLink RL 60 yX7_one ∈ GT := gt_t5 120 rfl rfl
set_option maxRecDepth 20000 in
theorem l_L_64 : Cond.methodLink RL 64 yX7_change ∈ GT := gt_t5 124 rfl rfl
set_option maxRecDepth 20000 in
theorem l_L_68 : Cond.methodLink RL 68 yX7_second ∈ GT := gt_t5 128 rfl rfl
set_option maxRecDepth 20000 in
theorem k_X7_322 : Cond.constant RX7 322 (-100000 : Int32) ∈ GT := gt_t5 132 rfl rfl
set_option maxRecDepth 20000 in
theorem l_L_77 : Cond.methodLink RL 77 yX7_mean ∈ GT := gt_t5 133 rfl rfl
set_option maxRecDepth 20000 in
theorem k_X7_323 : Cond.constantLong RX7 323 (-4611686018427387904 : Int64) ∈ GT := gt_t5 137 rfl rfl
set_option maxRecDepth 20000 in
theorem l_X7_325 : Cond.methodLink RX7 325 yX7_lowest ∈ GT := gt_t5 138 rfl rfl
set_option maxRecDepth 20000 in
theorem l_L_81 : Cond.methodLink RL 81 yX7_landings ∈ GT := gt_t5 141 rfl rfl
set_option maxRecDepth 20000 in
theorem l_X7_332 : Cond.methodLink RX7 332 yX7_landingsBad ∈ GT := gt_t5 145 rfl rfl
set_option maxRecDepth 20000 in
theorem l_X7_329 : Cond.methodLink RX7 329 yX7_isSheet ∈ GT := gt_t5 149 rfl rfl
set_option maxRecDepth 20000 in
theorem k_X7_358 : Cond.constantLong RX7 358 (3 : Int64) ∈ GT := gt_t5 152 rfl rfl
set_option maxRecDepth 20000 in
theorem l_X7_335 : Cond.methodLink RX7 335 yX7_unlikeAt ∈ GT := gt_t5 153 rfl rfl
set_option maxRecDepth 20000 in
theorem l_L_85 : Cond.methodLink RL 85 yX7_seen ∈ GT := gt_t5 157 rfl rfl
set_option maxRecDepth 20000 in
theorem l_X7_338 : Cond.methodLink RX7 338 yX7_lays ∈ GT := gt_t5 161 rfl rfl
set_option maxRecDepth 20000 in
theorem l_L_89 : Cond.methodLink RL 89 yX7_film ∈ GT := gt_t5 165 rfl rfl
set_option maxRecDepth 20000 in
theorem l_X7_341 : Cond.methodLink RX7 341 yX7_sheet ∈ GT := gt_t5 169 rfl rfl
set_option maxRecDepth 20000 in
theorem k_X7_360 : Cond.constantLong RX7 360 (-1 : Int64) ∈ GT := gt_t5 173 rfl rfl
set_option maxRecDepth 20000 in
theorem l_L_93 : Cond.methodLink RL 93 yX7_drawn ∈ GT := gt_t5 174 rfl rfl
set_option maxRecDepth 20000 in
theorem l_X7_345 : Cond.methodLink RX7 345 yX7_draws ∈ GT := gt_t5 178 rfl rfl
set_option maxRecDepth 20000 in
theorem k_X7_344 : Cond.constant RX7 344 (1103515245 : Int32) ∈ GT := gt_t5 182 rfl rfl
set_option maxRecDepth 20000 in
theorem l_L_98 : Cond.methodLink RL 98 yX7_chance ∈ GT := gt_t5 183 rfl rfl
set_option maxRecDepth 20000 in
theorem k_X7_348 : Cond.constantLong RX7 348 (20 : Int64) ∈ GT := gt_t5 187 rfl rfl
set_option maxRecDepth 20000 in
theorem l_L_102 : Cond.methodLink RL 102 yX7_image ∈ GT := gt_t5 188 rfl rfl
set_option maxRecDepth 20000 in
theorem l_L_106 : Cond.methodLink RL 106 yX7_back ∈ GT := gt_t5 192 rfl rfl
set_option maxRecDepth 20000 in
theorem l_L_110 : Cond.methodLink RL 110 yX7_count ∈ GT := gt_t5 196 rfl rfl
set_option maxRecDepth 20000 in
theorem k_X7_356 : Cond.constantLong RX7 356 (4 : Int64) ∈ GT := gt_t5 200 rfl rfl
set_option maxRecDepth 20000 in
theorem l_L_114 : Cond.methodLink RL 114 yX7_sheet ∈ GT := gt_t5 201 rfl rfl
set_option maxRecDepth 20000 in
theorem l_L_118 : Cond.methodLink RL 118 yX7_cell ∈ GT := gt_t5 202 rfl rfl
set_option maxRecDepth 20000 in
theorem l_L_123 : Cond.methodLink RL 123 yX7_copy ∈ GT := gt_t5 206 rfl rfl
set_option maxRecDepth 20000 in
theorem l_L_128 : Cond.methodLink RL 128 yX7_riders ∈ GT := gt_t5 210 rfl rfl
set_option maxRecDepth 20000 in
theorem l_X7_362 : Cond.methodLink RX7 362 yX7_rider ∈ GT := gt_t5 214 rfl rfl
set_option maxRecDepth 20000 in
theorem l_L_132 : Cond.methodLink RL 132 yX7_taken ∈ GT := gt_t5 215 rfl rfl
set_option maxRecDepth 20000 in
theorem l_X7_365 : Cond.methodLink RX7 365 yX7_over ∈ GT := gt_t5 219 rfl rfl

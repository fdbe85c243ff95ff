/-! the constructors of the class -/
theorem xq_of {v : Option Value} {sh sh' : XSh} {I I' : XI} {R R' : XRf} {L : XL} (zh1 : sh' = sh) (zh2 : I' = I) (zh3 : R' = R) : xq v sh I R L v sh' I' R' L := ⟨rfl, zh1, zh2, zh3, rfl⟩
section INITS
variable {E : XE} {d : Nat} {sh : XSh} {I : XI} {R : XRf} {L : XL}
theorem c_X0init {a : Nat} (zhs : sh[a]? = some (0, 10)) : XC E mX0_init (d + 1) 7 35 [.ref a] sh I R L (xq none (sh ++ [(8, 5), (8, 5), (8, 5), (8, 5), (8, 5), (8, 5), (8, 5)]) (xi I a 8 (nI 1)) (xr (xr (xr (xr (xr (xr (xr R a 0 (some (sh.length))) a 1 (some (sh.length + 1))) a 2 (some (sh.length + 2))) a 3 (some (sh.length + 3))) a 4 (some (sh.length + 4))) a 5 (some (sh.length + 5))) a 6 (some (sh.length + 6))) L) := by
  refine XC.of (by decide) rfl rfl ?_
  refine xv_aload_n (q := 1) rfl dX0_init_0 rfl rfl ?_
  refine xv_objInit (q := 4) rfl dX0_init_1 l_X0_3 oi_inst oi_code (by decide) (by omega) ?_
  refine xv_aload_n (q := 5) rfl dX0_init_4 rfl rfl ?_
  refine xv_iconst (v := nI 5) (q := 6) rfl dX0_init_5 rfl ?_
  refine xv_newi (N := 5) (kc' := 6) (ks' := 30) (q := 8) rfl dX0_init_6 rfl (by omega) ac_int (by omega) (by omega) ?_
  refine xv_puta (q := 11) rfl dX0_init_8 f_X0_9 (fun _ => ⟨rfl, rfl⟩) (app_at zhs) ?_
  refine xv_aload_n (q := 12) rfl dX0_init_11 rfl rfl ?_
  refine xv_iconst (v := nI 5) (q := 13) rfl dX0_init_12 rfl ?_
  refine xv_newi (N := 5) (kc' := 5) (ks' := 25) (q := 15) rfl dX0_init_13 rfl (by omega) ac_int (by omega) (by omega) ?_
  refine xv_puta (q := 18) rfl dX0_init_15 f_X0_15 (fun _ => ⟨rfl, rfl⟩) (app_at (app_at zhs)) ?_
  refine xv_aload_n (q := 19) rfl dX0_init_18 rfl rfl ?_
  refine xv_iconst (v := nI 5) (q := 20) rfl dX0_init_19 rfl ?_
  refine xv_newi (N := 5) (kc' := 4) (ks' := 20) (q := 22) rfl dX0_init_20 rfl (by omega) ac_int (by omega) (by omega) ?_
  refine xv_puta (q := 25) rfl dX0_init_22 f_X0_18 (fun _ => ⟨rfl, rfl⟩) (app_at (app_at (app_at zhs))) ?_
  refine xv_aload_n (q := 26) rfl dX0_init_25 rfl rfl ?_
  refine xv_iconst (v := nI 5) (q := 27) rfl dX0_init_26 rfl ?_
  refine xv_newi (N := 5) (kc' := 3) (ks' := 15) (q := 29) rfl dX0_init_27 rfl (by omega) ac_int (by omega) (by omega) ?_
  refine xv_puta (q := 32) rfl dX0_init_29 f_X0_21 (fun _ => ⟨rfl, rfl⟩) (app_at (app_at (app_at (app_at zhs)))) ?_
  refine xv_aload_n (q := 33) rfl dX0_init_32 rfl rfl ?_
  refine xv_iconst (v := nI 5) (q := 34) rfl dX0_init_33 rfl ?_
  refine xv_newi (N := 5) (kc' := 2) (ks' := 10) (q := 36) rfl dX0_init_34 rfl (by omega) ac_int (by omega) (by omega) ?_
  refine xv_puta (q := 39) rfl dX0_init_36 f_X0_24 (fun _ => ⟨rfl, rfl⟩) (app_at (app_at (app_at (app_at (app_at zhs))))) ?_
  refine xv_aload_n (q := 40) rfl dX0_init_39 rfl rfl ?_
  refine xv_iconst (v := nI 5) (q := 41) rfl dX0_init_40 rfl ?_
  refine xv_newi (N := 5) (kc' := 1) (ks' := 5) (q := 43) rfl dX0_init_41 rfl (by omega) ac_int (by omega) (by omega) ?_
  refine xv_puta (q := 46) rfl dX0_init_43 f_X0_27 (fun _ => ⟨rfl, rfl⟩) (app_at (app_at (app_at (app_at (app_at (app_at zhs)))))) ?_
  refine xv_aload_n (q := 47) rfl dX0_init_46 rfl rfl ?_
  refine xv_iconst (v := nI 5) (q := 48) rfl dX0_init_47 rfl ?_
  refine xv_newi (N := 5) (kc' := 0) (ks' := 0) (q := 50) rfl dX0_init_48 rfl (by omega) ac_int (by omega) (by omega) ?_
  refine xv_puta (q := 53) rfl dX0_init_50 f_X0_30 (fun _ => ⟨rfl, rfl⟩) (app_at (app_at (app_at (app_at (app_at (app_at (app_at zhs))))))) ?_
  refine xv_aload_n (q := 54) rfl dX0_init_53 rfl rfl ?_
  refine xv_iconst (v := nI 1) (q := 55) rfl dX0_init_54 rfl ?_
  refine xv_puti (q := 58) rfl dX0_init_55 f_X0_33 (fun h => by cases h) (app_at (app_at (app_at (app_at (app_at (app_at (app_at zhs))))))) ?_
  refine xv_vret dX0_init_58 rfl ?_
  try simp only [List.length_append, List.length_cons, List.length_nil, Nat.zero_add, List.append_assoc, List.cons_append, List.nil_append]
  exact xq_rfl
theorem c_X1init {a : Nat} (zhs : sh[a]? = some (1, 9)) : XC E mX1_init (d + 1) 3 323 [.ref a] sh I R L (xq none (sh ++ [(8, 160), (8, 160), (8, 3)]) I (xr (xr (xr R a 0 (some (sh.length))) a 6 (some (sh.length + 1))) a 8 (some (sh.length + 2))) L) := by
  refine XC.of (by decide) rfl rfl ?_
  refine xv_aload_n (q := 1) rfl dX1_init_0 rfl rfl ?_
  refine xv_objInit (q := 4) rfl dX1_init_1 l_X1_3 oi_inst oi_code (by decide) (by omega) ?_
  refine xv_aload_n (q := 5) rfl dX1_init_4 rfl rfl ?_
  refine xv_sipush (v := nI 160) (q := 8) rfl dX1_init_5 rfl ?_
  refine xv_newi (N := 160) (kc' := 2) (ks' := 163) (q := 10) rfl dX1_init_8 rfl (by omega) ac_int (by omega) (by omega) ?_
  refine xv_puta (q := 13) rfl dX1_init_10 f_X1_9 (fun _ => ⟨rfl, rfl⟩) (app_at zhs) ?_
  refine xv_aload_n (q := 14) rfl dX1_init_13 rfl rfl ?_
  refine xv_sipush (v := nI 160) (q := 17) rfl dX1_init_14 rfl ?_
  refine xv_newi (N := 160) (kc' := 1) (ks' := 3) (q := 19) rfl dX1_init_17 rfl (by omega) ac_int (by omega) (by omega) ?_
  refine xv_puta (q := 22) rfl dX1_init_19 f_X1_15 (fun _ => ⟨rfl, rfl⟩) (app_at (app_at zhs)) ?_
  refine xv_aload_n (q := 23) rfl dX1_init_22 rfl rfl ?_
  refine xv_iconst (v := nI 3) (q := 24) rfl dX1_init_23 rfl ?_
  refine xv_newi (N := 3) (kc' := 0) (ks' := 0) (q := 26) rfl dX1_init_24 rfl (by omega) ac_int (by omega) (by omega) ?_
  refine xv_puta (q := 29) rfl dX1_init_26 f_X1_18 (fun _ => ⟨rfl, rfl⟩) (app_at (app_at (app_at zhs))) ?_
  refine xv_vret dX1_init_29 rfl ?_
  try simp only [List.length_append, List.length_cons, List.length_nil, Nat.zero_add, List.append_assoc, List.cons_append, List.nil_append]
  exact xq_rfl
theorem c_X2init {a x z : Nat} (zhs : sh[a]? = some (2, 5)) : XC E mX2_init (d + 1) 1 5 [.ref a, .ref x, .ref z] sh I R L (xq none (sh ++ [(8, 5)]) I (xr (xr (xr R a 4 (some (sh.length))) a 0 (some x)) a 1 (some z)) L) := by
  refine XC.of (by decide) rfl rfl ?_
  refine xv_aload_n (q := 1) rfl dX2_init_0 rfl rfl ?_
  refine xv_objInit (q := 4) rfl dX2_init_1 l_X2_3 oi_inst oi_code (by decide) (by omega) ?_
  refine xv_aload_n (q := 5) rfl dX2_init_4 rfl rfl ?_
  refine xv_iconst (v := nI 5) (q := 6) rfl dX2_init_5 rfl ?_
  refine xv_newi (N := 5) (kc' := 0) (ks' := 0) (q := 8) rfl dX2_init_6 rfl (by omega) ac_int (by omega) (by omega) ?_
  refine xv_puta (q := 11) rfl dX2_init_8 f_X2_9 (fun _ => ⟨rfl, rfl⟩) (app_at zhs) ?_
  refine xv_aload_n (q := 12) rfl dX2_init_11 rfl rfl ?_
  refine xv_aload_n (q := 13) rfl dX2_init_12 rfl rfl ?_
  refine xv_puto (q := 16) rfl dX2_init_13 f_X2_15 (fun _ => ⟨rfl, rfl⟩) (app_at zhs) ?_
  refine xv_aload_n (q := 17) rfl dX2_init_16 rfl rfl ?_
  refine xv_aload_n (q := 18) rfl dX2_init_17 rfl rfl ?_
  refine xv_puto (q := 21) rfl dX2_init_18 f_X2_19 (fun _ => ⟨rfl, rfl⟩) (app_at zhs) ?_
  refine xv_vret dX2_init_21 rfl ?_
  try simp only [List.length_append, List.length_cons, List.length_nil, Nat.zero_add, List.append_assoc, List.cons_append, List.nil_append]
  exact xq_rfl
theorem c_X3init {a : Nat} (zhs : sh[a]? = some (3, 3)) : XC E mX3_init (d + 1) 1 40 [.ref a] sh I R L (xq none (sh ++ [(8, 40)]) (xi I a 2 (-1)) (xr R a 0 (some (sh.length))) L) := by
  refine XC.of (by decide) rfl rfl ?_
  refine xv_aload_n (q := 1) rfl dX3_init_0 rfl rfl ?_
  refine xv_objInit (q := 4) rfl dX3_init_1 l_X3_3 oi_inst oi_code (by decide) (by omega) ?_
  refine xv_aload_n (q := 5) rfl dX3_init_4 rfl rfl ?_
  refine xv_bipush (v := nI 40) (q := 7) rfl dX3_init_5 rfl ?_
  refine xv_newi (N := 40) (kc' := 0) (ks' := 0) (q := 9) rfl dX3_init_7 rfl (by omega) ac_int (by omega) (by omega) ?_
  refine xv_puta (q := 12) rfl dX3_init_9 f_X3_9 (fun _ => ⟨rfl, rfl⟩) (app_at zhs) ?_
  refine xv_aload_n (q := 13) rfl dX3_init_12 rfl rfl ?_
  refine xv_iconst (v := (-1)) (q := 14) rfl dX3_init_13 rfl ?_
  refine xv_puti (q := 17) rfl dX3_init_14 f_X3_15 (fun h => by cases h) (app_at zhs) ?_
  refine xv_vret dX3_init_17 rfl ?_
  try simp only [List.length_append, List.length_cons, List.length_nil, Nat.zero_add, List.append_assoc, List.cons_append, List.nil_append]
  exact xq_rfl
theorem c_X5init {a x z : Nat} (zhs : sh[a]? = some (5, 12)) : XC E mX5_init (d + 2) 16 573 [.ref a, .ref x, .ref z] sh I R L (xq none (sh ++ [(0, 10), (8, 5), (8, 5), (8, 5), (8, 5), (8, 5), (8, 5), (8, 5), (8, 10), (8, 10), (8, 10), (8, 5), (8, 5), (8, 450), (8, 6), (8, 32)]) (xi I (sh.length) 8 (nI 1)) (xr (xr (xr (xr (xr (xr (xr (xr (xr (xr (xr (xr (xr (xr (xr (xr (xr (xr R (sh.length) 0 (some (sh.length + 1))) (sh.length) 1 (some (sh.length + 2))) (sh.length) 2 (some (sh.length + 3))) (sh.length) 3 (some (sh.length + 4))) (sh.length) 4 (some (sh.length + 5))) (sh.length) 5 (some (sh.length + 6))) (sh.length) 6 (some (sh.length + 7))) a 0 (some (sh.length))) a 4 (some (sh.length + 8))) a 5 (some (sh.length + 9))) a 6 (some (sh.length + 10))) a 7 (some (sh.length + 11))) a 8 (some (sh.length + 12))) a 9 (some (sh.length + 13))) a 10 (some (sh.length + 14))) a 11 (some (sh.length + 15))) a 1 (some x)) a 2 (some z)) L) := by
  refine XC.of (by decide) rfl rfl ?_
  refine xv_aload_n (q := 1) rfl dX5_init_0 rfl rfl ?_
  refine xv_objInit (q := 4) rfl dX5_init_1 l_X5_3 oi_inst oi_code (by decide) (by omega) ?_
  refine xv_aload_n (q := 5) rfl dX5_init_4 rfl rfl ?_
  refine xv_new (t := 0) (kc' := 15) (ks' := 563) (q := 8) rfl dX5_init_5 (by decide) rfl inX0 tyX0_x nfX0 n_X5_9 ia_X0 iz_X0 (by omega) (by omega) ?_
  refine xv_dup (q := 9) rfl dX5_init_8 rfl ?_
  refine xv_callN (z := mX0_init) (host := "GetsOutFirst") (kc' := 8) (ks' := 528) (as := []) (q := 12) rfl dX5_init_9 (by decide) gX0_init rfl rfl (Nat.le_of_ble_eq_true rfl) (c_X0init (d := d) app_new) (by omega) (by omega) (by omega) ?_
  rintro _ _ _ _ _ ⟨rfl, rfl, rfl, rfl, rfl⟩
  refine xv_puto (q := 15) rfl dX5_init_12 f_X5_12 (fun _ => ⟨rfl, rfl⟩) (app_at (app_at zhs)) ?_
  refine xv_aload_n (q := 16) rfl dX5_init_15 rfl rfl ?_
  refine xv_bipush (v := nI 10) (q := 18) rfl dX5_init_16 rfl ?_
  refine xv_newi (N := 10) (kc' := 7) (ks' := 518) (q := 20) rfl dX5_init_18 rfl (by omega) ac_int (by omega) (by omega) ?_
  refine xv_puta (q := 23) rfl dX5_init_20 f_X5_18 (fun _ => ⟨rfl, rfl⟩) (app_at (app_at (app_at zhs))) ?_
  refine xv_aload_n (q := 24) rfl dX5_init_23 rfl rfl ?_
  refine xv_bipush (v := nI 10) (q := 26) rfl dX5_init_24 rfl ?_
  refine xv_newi (N := 10) (kc' := 6) (ks' := 508) (q := 28) rfl dX5_init_26 rfl (by omega) ac_int (by omega) (by omega) ?_
  refine xv_puta (q := 31) rfl dX5_init_28 f_X5_22 (fun _ => ⟨rfl, rfl⟩) (app_at (app_at (app_at (app_at zhs)))) ?_
  refine xv_aload_n (q := 32) rfl dX5_init_31 rfl rfl ?_
  refine xv_bipush (v := nI 10) (q := 34) rfl dX5_init_32 rfl ?_
  refine xv_newi (N := 10) (kc' := 5) (ks' := 498) (q := 36) rfl dX5_init_34 rfl (by omega) ac_int (by omega) (by omega) ?_
  refine xv_puta (q := 39) rfl dX5_init_36 f_X5_25 (fun _ => ⟨rfl, rfl⟩) (app_at (app_at (app_at (app_at (app_at zhs))))) ?_
  refine xv_aload_n (q := 40) rfl dX5_init_39 rfl rfl ?_
  refine xv_iconst (v := nI 5) (q := 41) rfl dX5_init_40 rfl ?_
  refine xv_newi (N := 5) (kc' := 4) (ks' := 493) (q := 43) rfl dX5_init_41 rfl (by omega) ac_int (by omega) (by omega) ?_
  refine xv_puta (q := 46) rfl dX5_init_43 f_X5_28 (fun _ => ⟨rfl, rfl⟩) (app_at (app_at (app_at (app_at (app_at (app_at zhs)))))) ?_
  refine xv_aload_n (q := 47) rfl dX5_init_46 rfl rfl ?_
  refine xv_iconst (v := nI 5) (q := 48) rfl dX5_init_47 rfl ?_
  refine xv_newi (N := 5) (kc' := 3) (ks' := 488) (q := 50) rfl dX5_init_48 rfl (by omega) ac_int (by omega) (by omega) ?_
  refine xv_puta (q := 53) rfl dX5_init_50 f_X5_31 (fun _ => ⟨rfl, rfl⟩) (app_at (app_at (app_at (app_at (app_at (app_at (app_at zhs))))))) ?_
  refine xv_aload_n (q := 54) rfl dX5_init_53 rfl rfl ?_
  refine xv_sipush (v := nI 450) (q := 57) rfl dX5_init_54 rfl ?_
  refine xv_newi (N := 450) (kc' := 2) (ks' := 38) (q := 59) rfl dX5_init_57 rfl (by omega) ac_int (by omega) (by omega) ?_
  refine xv_puta (q := 62) rfl dX5_init_59 f_X5_34 (fun _ => ⟨rfl, rfl⟩) (app_at (app_at (app_at (app_at (app_at (app_at (app_at (app_at zhs)))))))) ?_
  refine xv_aload_n (q := 63) rfl dX5_init_62 rfl rfl ?_
  refine xv_bipush (v := nI 6) (q := 65) rfl dX5_init_63 rfl ?_
  refine xv_newi (N := 6) (kc' := 1) (ks' := 32) (q := 67) rfl dX5_init_65 rfl (by omega) ac_int (by omega) (by omega) ?_
  refine xv_puta (q := 70) rfl dX5_init_67 f_X5_39 (fun _ => ⟨rfl, rfl⟩) (app_at (app_at (app_at (app_at (app_at (app_at (app_at (app_at (app_at zhs))))))))) ?_
  refine xv_aload_n (q := 71) rfl dX5_init_70 rfl rfl ?_
  refine xv_bipush (v := nI 32) (q := 73) rfl dX5_init_71 rfl ?_
  refine xv_newi (N := 32) (kc' := 0) (ks' := 0) (q := 75) rfl dX5_init_73 rfl (by omega) ac_int (by omega) (by omega) ?_
  refine xv_puta (q := 78) rfl dX5_init_75 f_X5_42 (fun _ => ⟨rfl, rfl⟩) (app_at (app_at (app_at (app_at (app_at (app_at (app_at (app_at (app_at (app_at zhs)))))))))) ?_
  refine xv_aload_n (q := 79) rfl dX5_init_78 rfl rfl ?_
  refine xv_aload_n (q := 80) rfl dX5_init_79 rfl rfl ?_
  refine xv_puto (q := 83) rfl dX5_init_80 f_X5_45 (fun _ => ⟨rfl, rfl⟩) (app_at (app_at (app_at (app_at (app_at (app_at (app_at (app_at (app_at (app_at zhs)))))))))) ?_
  refine xv_aload_n (q := 84) rfl dX5_init_83 rfl rfl ?_
  refine xv_aload_n (q := 85) rfl dX5_init_84 rfl rfl ?_
  refine xv_puta (q := 88) rfl dX5_init_85 f_X5_48 (fun _ => ⟨rfl, rfl⟩) (app_at (app_at (app_at (app_at (app_at (app_at (app_at (app_at (app_at (app_at zhs)))))))))) ?_
  refine xv_vret dX5_init_88 rfl ?_
  try simp only [List.length_append, List.length_cons, List.length_nil, Nat.zero_add, List.append_assoc, List.cons_append, List.nil_append]
  exact xq_rfl
end INITS
def SHA : XSh := [(6, 9), (0, 10), (8, 5), (8, 5), (8, 5), (8, 5), (8, 5), (8, 5), (8, 5), (0, 10), (8, 5), (8, 5), (8, 5), (8, 5), (8, 5), (8, 5), (8, 5), (1, 9), (8, 160), (8, 160), (8, 3), (10, 6), (11, 4), (5, 12), (0, 10), (8, 5), (8, 5), (8, 5), (8, 5), (8, 5), (8, 5), (8, 5), (8, 10), (8, 10), (8, 10), (8, 5), (8, 5), (8, 450), (8, 6), (8, 32), (2, 5), (8, 5), (4, 2), (8, 3), (8, 3), (3, 3), (8, 40), (3, 3), (8, 40), (3, 3), (8, 40), (3, 3), (8, 40)]
def I00 : XI := fun _ _ => 0
def R00 : XRf := fun _ _ => none
def L00 : XL := fun _ _ => 0
def RAl : List (Nat × Nat × Nat) := [(1, 0, 2), (1, 1, 3), (1, 2, 4), (1, 3, 5), (1, 4, 6), (1, 5, 7), (1, 6, 8), (0, 0, 1), (9, 0, 10), (9, 1, 11), (9, 2, 12), (9, 3, 13), (9, 4, 14), (9, 5, 15), (9, 6, 16), (0, 1, 9), (17, 0, 18), (17, 6, 19), (17, 8, 20), (0, 3, 17), (0, 4, 21), (0, 6, 22), (24, 0, 25), (24, 1, 26), (24, 2, 27), (24, 3, 28), (24, 4, 29), (24, 5, 30), (24, 6, 31), (23, 0, 24), (23, 4, 32), (23, 5, 33), (23, 6, 34), (23, 7, 35), (23, 8, 36), (23, 9, 37), (23, 10, 38), (23, 11, 39), (23, 1, 1), (23, 2, 21), (0, 7, 23), (40, 4, 41), (40, 0, 1), (40, 1, 23), (0, 8, 40), (42, 0, 43), (42, 1, 44), (21, 0, 42), (45, 0, 46), (22, 0, 45), (47, 0, 48), (22, 1, 47), (49, 0, 50), (22, 2, 49), (51, 0, 52), (22, 3, 51)]
def IAl : List (Nat × Nat × Int32) := [(1, 8, (nI 1)), (9, 8, (nI 1)), (24, 8, (nI 1)), (43, 0, (nI 5)), (43, 1, (nI 1)), (43, 2, (nI 3)), (44, 0, (nI 1)), (44, 1, (nI 2)), (44, 2, (nI 3)), (0, 5, (nI 1)), (45, 2, (-1)), (47, 2, (-1)), (49, 2, (-1)), (51, 2, (-1))]
def RA : XRf := RAl.foldl (fun R q => xr R q.1 q.2.1 (some q.2.2)) R00
def IA : XI := IAl.foldl (fun I q => xi I q.1 q.2.1 q.2.2) I00
set_option maxRecDepth 20000 in
set_option maxHeartbeats 4000000 in
theorem c_X6init {E : XE} {d : Nat} : XC E mX6_init (d + 3) 52 1207 [.ref 0] [(6, 9)] I00 R00 L00 (xq none SHA IA RA L00) := by
  refine XC.of (by decide) rfl rfl ?_
  refine xv_aload_n (q := 1) rfl dX6_init_0 rfl rfl ?_
  refine xv_objInit (q := 4) rfl dX6_init_1 l_X6_1 oi_inst oi_code (by decide) (by omega) ?_
  refine xv_aload_n (q := 5) rfl dX6_init_4 rfl rfl ?_
  refine xv_new (t := 0) (kc' := 51) (ks' := 1197) (q := 8) rfl dX6_init_5 (by decide) rfl inX0 tyX0_x nfX0 n_X6_7 ia_X0 iz_X0 (by omega) (by omega) ?_
  refine xv_dup (q := 9) rfl dX6_init_8 rfl ?_
  refine xv_callN (z := mX0_init) (host := "GetsOutFirst") (kc' := 44) (ks' := 1162) (as := []) (q := 12) rfl dX6_init_9 (by decide) gX0_init rfl rfl (Nat.le_of_ble_eq_true rfl) (c_X0init (d := d) (a := 1) rfl) (by omega) (by omega) (by omega) ?_
  rintro _ _ _ _ _ ⟨rfl, rfl, rfl, rfl, rfl⟩
  refine xv_puto (q := 15) rfl dX6_init_12 f_X6_10 (fun _ => ⟨rfl, rfl⟩) rfl ?_
  refine xv_aload_n (q := 16) rfl dX6_init_15 rfl rfl ?_
  refine xv_new (t := 0) (kc' := 43) (ks' := 1152) (q := 19) rfl dX6_init_16 (by decide) rfl inX0 tyX0_x nfX0 n_X6_7 ia_X0 iz_X0 (by omega) (by omega) ?_
  refine xv_dup (q := 20) rfl dX6_init_19 rfl ?_
  refine xv_callN (z := mX0_init) (host := "GetsOutFirst") (kc' := 36) (ks' := 1117) (as := []) (q := 23) rfl dX6_init_20 (by decide) gX0_init rfl rfl (Nat.le_of_ble_eq_true rfl) (c_X0init (d := d) (a := 9) rfl) (by omega) (by omega) (by omega) ?_
  rintro _ _ _ _ _ ⟨rfl, rfl, rfl, rfl, rfl⟩
  refine xv_puto (q := 26) rfl dX6_init_23 f_X6_16 (fun _ => ⟨rfl, rfl⟩) rfl ?_
  refine xv_aload_n (q := 27) rfl dX6_init_26 rfl rfl ?_
  refine xv_new (t := 1) (kc' := 35) (ks' := 1108) (q := 30) rfl dX6_init_27 (by decide) rfl inX1 tyX1_x nfX1 n_X6_19 ia_X1 iz_X1 (by omega) (by omega) ?_
  refine xv_dup (q := 31) rfl dX6_init_30 rfl ?_
  refine xv_callN (z := mX1_init) (host := "GetsOutFirst") (kc' := 32) (ks' := 785) (as := []) (q := 34) rfl dX6_init_31 (by decide) gX1_init rfl rfl (Nat.le_of_ble_eq_true rfl) (c_X1init (d := d) (a := 17) rfl) (by omega) (by omega) (by omega) ?_
  rintro _ _ _ _ _ ⟨rfl, rfl, rfl, rfl, rfl⟩
  refine xv_puto (q := 37) rfl dX6_init_34 f_X6_22 (fun _ => ⟨rfl, rfl⟩) rfl ?_
  refine xv_aload_n (q := 38) rfl dX6_init_37 rfl rfl ?_
  refine xv_bipush (v := nI 6) (q := 40) rfl dX6_init_38 rfl ?_
  refine xv_newq (N := 6) (t := 10) (kc' := 31) (ks' := 779) (q := 43) rfl dX6_init_40 rfl (by omega) n_X6_26 (by decide) (xty2 E) (fun U h => h.1) (by omega) (by omega) ?_
  refine xv_puta (q := 46) rfl dX6_init_43 f_X6_28 (fun _ => ⟨rfl, rfl⟩) rfl ?_
  refine xv_aload_n (q := 47) rfl dX6_init_46 rfl rfl ?_
  refine xv_iconst (v := nI 4) (q := 48) rfl dX6_init_47 rfl ?_
  refine xv_newq (N := 4) (t := 11) (kc' := 30) (ks' := 775) (q := 51) rfl dX6_init_48 rfl (by omega) n_X6_32 (by decide) (xty3 E) (fun U h => h.2.1) (by omega) (by omega) ?_
  refine xv_puta (q := 54) rfl dX6_init_51 f_X6_34 (fun _ => ⟨rfl, rfl⟩) rfl ?_
  refine xv_aload_n (q := 55) rfl dX6_init_54 rfl rfl ?_
  refine xv_new (t := 5) (kc' := 29) (ks' := 763) (q := 58) rfl dX6_init_55 (by decide) rfl inX5 tyX5_x nfX5 n_X6_38 ia_X5 iz_X5 (by omega) (by omega) ?_
  refine xv_dup (q := 59) rfl dX6_init_58 rfl ?_
  refine xv_aload_n (q := 60) rfl dX6_init_59 rfl rfl ?_
  refine xv_geto (q := 63) rfl dX6_init_60 f_X6_10 rfl rfl ?_
  refine xv_aload_n (q := 64) rfl dX6_init_63 rfl rfl ?_
  refine xv_geta (q := 67) rfl dX6_init_64 f_X6_28 rfl rfl ?_
  refine xv_callI (z := mX5_init) (kc' := 13) (ks' := 190) (as := [.ref 1, .ref 21]) (q := 70) rfl dX6_init_67 l_X6_40 gX5_init rfl rfl (Nat.le_of_ble_eq_true rfl) (c_X5init (d := d) (a := 23) (x := 1) (z := 21) rfl) (by omega) (by omega) (by omega) ?_
  rintro _ _ _ _ _ ⟨rfl, rfl, rfl, rfl, rfl⟩
  refine xv_puto (q := 73) rfl dX6_init_70 f_X6_43 (fun _ => ⟨rfl, rfl⟩) rfl ?_
  refine xv_aload_n (q := 74) rfl dX6_init_73 rfl rfl ?_
  refine xv_new (t := 2) (kc' := 12) (ks' := 185) (q := 77) rfl dX6_init_74 (by decide) rfl inX2 tyX2_x nfX2 n_X6_47 ia_X2 iz_X2 (by omega) (by omega) ?_
  refine xv_dup (q := 78) rfl dX6_init_77 rfl ?_
  refine xv_aload_n (q := 79) rfl dX6_init_78 rfl rfl ?_
  refine xv_geto (q := 82) rfl dX6_init_79 f_X6_10 rfl rfl ?_
  refine xv_aload_n (q := 83) rfl dX6_init_82 rfl rfl ?_
  refine xv_geto (q := 86) rfl dX6_init_83 f_X6_43 rfl rfl ?_
  refine xv_callI (z := mX2_init) (kc' := 11) (ks' := 180) (as := [.ref 1, .ref 23]) (q := 89) rfl dX6_init_86 l_X6_49 gX2_init rfl rfl (Nat.le_of_ble_eq_true rfl) (c_X2init (d := d) (a := 40) (x := 1) (z := 23) rfl) (by omega) (by omega) (by omega) ?_
  rintro _ _ _ _ _ ⟨rfl, rfl, rfl, rfl, rfl⟩
  refine xv_puto (q := 92) rfl dX6_init_89 f_X6_52 (fun _ => ⟨rfl, rfl⟩) rfl ?_
  refine xv_aload_n (q := 93) rfl dX6_init_92 rfl rfl ?_
  refine xv_geta (q := 96) rfl dX6_init_93 f_X6_28 rfl rfl ?_
  refine xv_iconst (v := nI 0) (q := 97) rfl dX6_init_96 rfl ?_
  refine xv_new (t := 4) (kc' := 10) (ks' := 178) (q := 100) rfl dX6_init_97 (by decide) rfl inX4 tyX4_x nfX4 n_X6_26 ia_X4 iz_X4 (by omega) (by omega) ?_
  refine xv_dup (q := 101) rfl dX6_init_100 rfl ?_
  refine xv_iconst (v := nI 3) (q := 102) rfl dX6_init_101 rfl ?_
  refine xv_newi (N := 3) (kc' := 9) (ks' := 175) (q := 104) rfl dX6_init_102 rfl (by omega) ac_int (by omega) (by omega) ?_
  refine xv_dup (q := 105) rfl dX6_init_104 rfl ?_
  refine xv_iconst (v := nI 0) (q := 106) rfl dX6_init_105 rfl ?_
  refine xv_iconst (v := nI 5) (q := 107) rfl dX6_init_106 rfl ?_
  refine xv_iast (q := 108) rfl dX6_init_107 rfl rfl (show 0 < 3 by decide) (by decide) ?_
  refine xv_dup (q := 109) rfl dX6_init_108 rfl ?_
  refine xv_iconst (v := nI 1) (q := 110) rfl dX6_init_109 rfl ?_
  refine xv_iconst (v := nI 1) (q := 111) rfl dX6_init_110 rfl ?_
  refine xv_iast (q := 112) rfl dX6_init_111 rfl rfl (show 1 < 3 by decide) (by decide) ?_
  refine xv_dup (q := 113) rfl dX6_init_112 rfl ?_
  refine xv_iconst (v := nI 2) (q := 114) rfl dX6_init_113 rfl ?_
  refine xv_iconst (v := nI 3) (q := 115) rfl dX6_init_114 rfl ?_
  refine xv_iast (q := 116) rfl dX6_init_115 rfl rfl (show 2 < 3 by decide) (by decide) ?_
  refine xv_iconst (v := nI 3) (q := 117) rfl dX6_init_116 rfl ?_
  refine xv_newi (N := 3) (kc' := 8) (ks' := 172) (q := 119) rfl dX6_init_117 rfl (by omega) ac_int (by omega) (by omega) ?_
  refine xv_dup (q := 120) rfl dX6_init_119 rfl ?_
  refine xv_iconst (v := nI 0) (q := 121) rfl dX6_init_120 rfl ?_
  refine xv_iconst (v := nI 1) (q := 122) rfl dX6_init_121 rfl ?_
  refine xv_iast (q := 123) rfl dX6_init_122 rfl rfl (show 0 < 3 by decide) (by decide) ?_
  refine xv_dup (q := 124) rfl dX6_init_123 rfl ?_
  refine xv_iconst (v := nI 1) (q := 125) rfl dX6_init_124 rfl ?_
  refine xv_iconst (v := nI 2) (q := 126) rfl dX6_init_125 rfl ?_
  refine xv_iast (q := 127) rfl dX6_init_126 rfl rfl (show 1 < 3 by decide) (by decide) ?_
  refine xv_dup (q := 128) rfl dX6_init_127 rfl ?_
  refine xv_iconst (v := nI 2) (q := 129) rfl dX6_init_128 rfl ?_
  refine xv_iconst (v := nI 3) (q := 130) rfl dX6_init_129 rfl ?_
  refine xv_iast (q := 131) rfl dX6_init_130 rfl rfl (show 2 < 3 by decide) (by decide) ?_
  refine xv_callI (z := mX4_init) (kc' := 8) (ks' := 172) (as := [.ref 43, .ref 44]) (q := 134) rfl dX6_init_131 l_X6_56 gX4_init rfl rfl (Nat.le_of_ble_eq_true rfl) (c_Tinit (d := d) (t := 42) (ca := 43) (ea := 44) rfl) (by omega) (by omega) (by omega) ?_
  rintro _ _ _ _ _ ⟨rfl, rfl, rfl, rfl, rfl⟩
  refine xv_aast (j := 0) (v := 42) (C := "GetsOutFirst$Text") (q := 135) rfl dX6_init_134 rfl rfl (show 0 < 6 by decide) (by decide) (by decide) (xty2 E) (show 4 < 8 by decide) rfl rfl ?_
  refine xv_aload_n (q := 136) rfl dX6_init_135 rfl rfl ?_
  refine xv_iconst (v := nI 1) (q := 137) rfl dX6_init_136 rfl ?_
  refine xv_puti (q := 140) rfl dX6_init_137 f_X6_59 (fun h => by cases h) rfl ?_
  refine xv_iconst (v := nI 0) (q := 141) rfl dX6_init_140 rfl ?_
  refine xv_istore_n (q := 142) rfl dX6_init_141 rfl rfl ?_
  refine xv_iload_n (q := 143) rfl dX6_init_142 rfl rfl ?_
  refine xv_iconst (v := nI 4) (q := 144) rfl dX6_init_143 rfl ?_
  refine xv_icmp_ge (q := 147) (t := 166) rfl rfl dX6_init_144 (fun h144 => ?_) (fun h144 => ?_)
  · exact absurd h144 (by decide)
  · refine xv_aload_n (q := 148) rfl dX6_init_147 rfl rfl ?_
    refine xv_geta (q := 151) rfl dX6_init_148 f_X6_34 rfl rfl ?_
    refine xv_iload_n (q := 152) rfl dX6_init_151 rfl rfl ?_
    refine xv_new (t := 3) (kc' := 7) (ks' := 169) (q := 155) rfl dX6_init_152 (by decide) rfl inX3 tyX3_x nfX3 n_X6_32 ia_X3 iz_X3 (by omega) (by omega) ?_
    refine xv_dup (q := 156) rfl dX6_init_155 rfl ?_
    refine xv_callN (z := mX3_init) (host := "GetsOutFirst") (kc' := 6) (ks' := 129) (as := []) (q := 159) rfl dX6_init_156 (by decide) gX3_init rfl rfl (Nat.le_of_ble_eq_true rfl) (c_X3init (d := d) (a := 45) rfl) (by omega) (by omega) (by omega) ?_
    rintro _ _ _ _ _ ⟨rfl, rfl, rfl, rfl, rfl⟩
    refine xv_aast (j := 0) (v := 45) (C := "GetsOutFirst$Sheet") (q := 160) rfl dX6_init_159 rfl rfl (show 0 < 4 by decide) (by decide) (by decide) (xty3 E) (show 3 < 8 by decide) rfl rfl ?_
    refine xv_iinc (q := 163) (v := nI 1) rfl dX6_init_160 rfl rfl ?_
    refine xv_ls (ls' := [some (.ref 0), some (.int (nI 1))]) rfl ?_
    refine xv_goto (t := 142) rfl dX6_init_163 ?_
    refine xv_iload_n (q := 143) rfl dX6_init_142 rfl rfl ?_
    refine xv_iconst (v := nI 4) (q := 144) rfl dX6_init_143 rfl ?_
    refine xv_icmp_ge (q := 147) (t := 166) rfl rfl dX6_init_144 (fun h144 => ?_) (fun h144 => ?_)
    · exact absurd h144 (by decide)
    · refine xv_aload_n (q := 148) rfl dX6_init_147 rfl rfl ?_
      refine xv_geta (q := 151) rfl dX6_init_148 f_X6_34 rfl rfl ?_
      refine xv_iload_n (q := 152) rfl dX6_init_151 rfl rfl ?_
      refine xv_new (t := 3) (kc' := 5) (ks' := 126) (q := 155) rfl dX6_init_152 (by decide) rfl inX3 tyX3_x nfX3 n_X6_32 ia_X3 iz_X3 (by omega) (by omega) ?_
      refine xv_dup (q := 156) rfl dX6_init_155 rfl ?_
      refine xv_callN (z := mX3_init) (host := "GetsOutFirst") (kc' := 4) (ks' := 86) (as := []) (q := 159) rfl dX6_init_156 (by decide) gX3_init rfl rfl (Nat.le_of_ble_eq_true rfl) (c_X3init (d := d) (a := 47) rfl) (by omega) (by omega) (by omega) ?_
      rintro _ _ _ _ _ ⟨rfl, rfl, rfl, rfl, rfl⟩
      refine xv_aast (j := 1) (v := 47) (C := "GetsOutFirst$Sheet") (q := 160) rfl dX6_init_159 rfl rfl (show 1 < 4 by decide) (by decide) (by decide) (xty3 E) (show 3 < 8 by decide) rfl rfl ?_
      refine xv_iinc (q := 163) (v := nI 1) rfl dX6_init_160 rfl rfl ?_
      refine xv_ls (ls' := [some (.ref 0), some (.int (nI 2))]) rfl ?_
      refine xv_goto (t := 142) rfl dX6_init_163 ?_
      refine xv_iload_n (q := 143) rfl dX6_init_142 rfl rfl ?_
      refine xv_iconst (v := nI 4) (q := 144) rfl dX6_init_143 rfl ?_
      refine xv_icmp_ge (q := 147) (t := 166) rfl rfl dX6_init_144 (fun h144 => ?_) (fun h144 => ?_)
      · exact absurd h144 (by decide)
      · refine xv_aload_n (q := 148) rfl dX6_init_147 rfl rfl ?_
        refine xv_geta (q := 151) rfl dX6_init_148 f_X6_34 rfl rfl ?_
        refine xv_iload_n (q := 152) rfl dX6_init_151 rfl rfl ?_
        refine xv_new (t := 3) (kc' := 3) (ks' := 83) (q := 155) rfl dX6_init_152 (by decide) rfl inX3 tyX3_x nfX3 n_X6_32 ia_X3 iz_X3 (by omega) (by omega) ?_
        refine xv_dup (q := 156) rfl dX6_init_155 rfl ?_
        refine xv_callN (z := mX3_init) (host := "GetsOutFirst") (kc' := 2) (ks' := 43) (as := []) (q := 159) rfl dX6_init_156 (by decide) gX3_init rfl rfl (Nat.le_of_ble_eq_true rfl) (c_X3init (d := d) (a := 49) rfl) (by omega) (by omega) (by omega) ?_
        rintro _ _ _ _ _ ⟨rfl, rfl, rfl, rfl, rfl⟩
        refine xv_aast (j := 2) (v := 49) (C := "GetsOutFirst$Sheet") (q := 160) rfl dX6_init_159 rfl rfl (show 2 < 4 by decide) (by decide) (by decide) (xty3 E) (show 3 < 8 by decide) rfl rfl ?_
        refine xv_iinc (q := 163) (v := nI 1) rfl dX6_init_160 rfl rfl ?_
        refine xv_ls (ls' := [some (.ref 0), some (.int (nI 3))]) rfl ?_
        refine xv_goto (t := 142) rfl dX6_init_163 ?_
        refine xv_iload_n (q := 143) rfl dX6_init_142 rfl rfl ?_
        refine xv_iconst (v := nI 4) (q := 144) rfl dX6_init_143 rfl ?_
        refine xv_icmp_ge (q := 147) (t := 166) rfl rfl dX6_init_144 (fun h144 => ?_) (fun h144 => ?_)
        · exact absurd h144 (by decide)
        · refine xv_aload_n (q := 148) rfl dX6_init_147 rfl rfl ?_
          refine xv_geta (q := 151) rfl dX6_init_148 f_X6_34 rfl rfl ?_
          refine xv_iload_n (q := 152) rfl dX6_init_151 rfl rfl ?_
          refine xv_new (t := 3) (kc' := 1) (ks' := 40) (q := 155) rfl dX6_init_152 (by decide) rfl inX3 tyX3_x nfX3 n_X6_32 ia_X3 iz_X3 (by omega) (by omega) ?_
          refine xv_dup (q := 156) rfl dX6_init_155 rfl ?_
          refine xv_callN (z := mX3_init) (host := "GetsOutFirst") (kc' := 0) (ks' := 0) (as := []) (q := 159) rfl dX6_init_156 (by decide) gX3_init rfl rfl (Nat.le_of_ble_eq_true rfl) (c_X3init (d := d) (a := 51) rfl) (by omega) (by omega) (by omega) ?_
          rintro _ _ _ _ _ ⟨rfl, rfl, rfl, rfl, rfl⟩
          refine xv_aast (j := 3) (v := 51) (C := "GetsOutFirst$Sheet") (q := 160) rfl dX6_init_159 rfl rfl (show 3 < 4 by decide) (by decide) (by decide) (xty3 E) (show 3 < 8 by decide) rfl rfl ?_
          refine xv_iinc (q := 163) (v := nI 1) rfl dX6_init_160 rfl rfl ?_
          refine xv_ls (ls' := [some (.ref 0), some (.int (nI 4))]) rfl ?_
          refine xv_goto (t := 142) rfl dX6_init_163 ?_
          refine xv_iload_n (q := 143) rfl dX6_init_142 rfl rfl ?_
          refine xv_iconst (v := nI 4) (q := 144) rfl dX6_init_143 rfl ?_
          refine xv_icmp_ge (q := 147) (t := 166) rfl rfl dX6_init_144 (fun h144 => ?_) (fun h144 => ?_)
          · refine xv_vret dX6_init_166 rfl ?_
            exact xq_of rfl rfl rfl
          · exact absurd h144 (by decide)

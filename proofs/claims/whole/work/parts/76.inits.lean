/-! the constructors of the class -/
theorem xq_of {v : Option Value} {sh sh' : XSh} {I I' : XI} {R R' : XRf} {L : XL} (zh1 : sh' = sh) (zh2 : I' = I) (zh3 : R' = R) : xq v sh I R L v sh' I' R' L := ⟨rfl, zh1, zh2, zh3, rfl⟩
section INITS
variable {E : XE} {d : Nat} {sh : XSh} {I : XI} {R : XRf} {L : XL}
theorem c_X0init {a : Nat} (zhs : sh[a]? = some (0, 10)) : XC E mX0_init (d + 1) 7 35 [.ref a] sh I R L (xq none (sh ++ [(8, 5), (8, 5), (8, 5), (8, 5), (8, 5), (8, 5), (8, 5)]) (xi I a 8 (nI 1)) (xr (xr (xr (xr (xr (xr (xr R a 0 (some (sh.length))) a 1 (some (sh.length + 1))) a 2 (some (sh.length + 2))) a 3 (some (sh.length + 3))) a 4 (some (sh.length + 4))) a 5 (some (sh.length + 5))) a 6 (some (sh.length + 6))) L) := by
  refine XC.of (by decide) rfl rfl ?_
  refine xv_aload_n (q := 1) rfl dX0_init_0 rfl rfl ?_
  refine xv_objInit (q := 4) rfl dX0_init_1 l_X0_3 oi_inst oi_code (by decide) (by omega) ?_
  refine xv_aload_n (q := 5) rfl dX0_init_4 rfl rfl ?_
  refine xv_iconst (v := nI 5) (q := 6) rfl dX0_init_5 rfl ?_
  refine xv_newi (N := 5) (kc' := 6) (ks' := 30) (q := 8) rfl dX0_init_6 rfl (by omega) ac_int (by omega) (by omega) ?_
  refine xv_puta (q := 11) rfl dX0_init_8 f_X0_9 (fun _ => ⟨rfl, rfl⟩) (app_at zhs) ?_
  refine xv_aload_n (q := 12) rfl dX0_init_11 rfl rfl ?_
  refine xv_iconst (v := nI 5) (q := 13) rfl dX0_init_12 rfl ?_
  refine xv_newi (N := 5) (kc' := 5) (ks' := 25) (q := 15) rfl dX0_init_13 rfl (by omega) ac_int (by omega) (by omega) ?_
  refine xv_puta (q := 18) rfl dX0_init_15 f_X0_15 (fun _ => ⟨rfl, rfl⟩) (app_at (app_at zhs)) ?_
  refine xv_aload_n (q := 19) rfl dX0_init_18 rfl rfl ?_
  refine xv_iconst (v := nI 5) (q := 20) rfl dX0_init_19 rfl ?_
  refine xv_newi (N := 5) (kc' := 4) (ks' := 20) (q := 22) rfl dX0_init_20 rfl (by omega) ac_int (by omega) (by omega) ?_
  refine xv_puta (q := 25) rfl dX0_init_22 f_X0_18 (fun _ => ⟨rfl, rfl⟩) (app_at (app_at (app_at zhs))) ?_
  refine xv_aload_n (q := 26) rfl dX0_init_25 rfl rfl ?_
  refine xv_iconst (v := nI 5) (q := 27) rfl dX0_init_26 rfl ?_
  refine xv_newi (N := 5) (kc' := 3) (ks' := 15) (q := 29) rfl dX0_init_27 rfl (by omega) ac_int (by omega) (by omega) ?_
  refine xv_puta (q := 32) rfl dX0_init_29 f_X0_21 (fun _ => ⟨rfl, rfl⟩) (app_at (app_at (app_at (app_at zhs)))) ?_
  refine xv_aload_n (q := 33) rfl dX0_init_32 rfl rfl ?_
  refine xv_iconst (v := nI 5) (q := 34) rfl dX0_init_33 rfl ?_
  refine xv_newi (N := 5) (kc' := 2) (ks' := 10) (q := 36) rfl dX0_init_34 rfl (by omega) ac_int (by omega) (by omega) ?_
  refine xv_puta (q := 39) rfl dX0_init_36 f_X0_24 (fun _ => ⟨rfl, rfl⟩) (app_at (app_at (app_at (app_at (app_at zhs))))) ?_
  refine xv_aload_n (q := 40) rfl dX0_init_39 rfl rfl ?_
  refine xv_iconst (v := nI 5) (q := 41) rfl dX0_init_40 rfl ?_
  refine xv_newi (N := 5) (kc' := 1) (ks' := 5) (q := 43) rfl dX0_init_41 rfl (by omega) ac_int (by omega) (by omega) ?_
  refine xv_puta (q := 46) rfl dX0_init_43 f_X0_27 (fun _ => ⟨rfl, rfl⟩) (app_at (app_at (app_at (app_at (app_at (app_at zhs)))))) ?_
  refine xv_aload_n (q := 47) rfl dX0_init_46 rfl rfl ?_
  refine xv_iconst (v := nI 5) (q := 48) rfl dX0_init_47 rfl ?_
  refine xv_newi (N := 5) (kc' := 0) (ks' := 0) (q := 50) rfl dX0_init_48 rfl (by omega) ac_int (by omega) (by omega) ?_
  refine xv_puta (q := 53) rfl dX0_init_50 f_X0_30 (fun _ => ⟨rfl, rfl⟩) (app_at (app_at (app_at (app_at (app_at (app_at (app_at zhs))))))) ?_
  refine xv_aload_n (q := 54) rfl dX0_init_53 rfl rfl ?_
  refine xv_iconst (v := nI 1) (q := 55) rfl dX0_init_54 rfl ?_
  refine xv_puti (q := 58) rfl dX0_init_55 f_X0_33 (fun h => by cases h) (app_at (app_at (app_at (app_at (app_at (app_at (app_at zhs))))))) ?_
  refine xv_vret dX0_init_58 rfl ?_
  try simp only [List.length_append, List.length_cons, List.length_nil, Nat.zero_add, List.append_assoc, List.cons_append, List.nil_append]
  exact xq_rfl
theorem c_X1init {a : Nat} (zhs : sh[a]? = some (1, 9)) : XC E mX1_init (d + 1) 3 323 [.ref a] sh I R L (xq none (sh ++ [(8, 160), (8, 160), (8, 3)]) I (xr (xr (xr R a 0 (some (sh.length))) a 6 (some (sh.length + 1))) a 8 (some (sh.length + 2))) L) := by
  refine XC.of (by decide) rfl rfl ?_
  refine xv_aload_n (q := 1) rfl dX1_init_0 rfl rfl ?_
  refine xv_objInit (q := 4) rfl dX1_init_1 l_X1_3 oi_inst oi_code (by decide) (by omega) ?_
  refine xv_aload_n (q := 5) rfl dX1_init_4 rfl rfl ?_
  refine xv_sipush (v := nI 160) (q := 8) rfl dX1_init_5 rfl ?_
  refine xv_newi (N := 160) (kc' := 2) (ks' := 163) (q := 10) rfl dX1_init_8 rfl (by omega) ac_int (by omega) (by omega) ?_
  refine xv_puta (q := 13) rfl dX1_init_10 f_X1_9 (fun _ => ⟨rfl, rfl⟩) (app_at zhs) ?_
  refine xv_aload_n (q := 14) rfl dX1_init_13 rfl rfl ?_
  refine xv_sipush (v := nI 160) (q := 17) rfl dX1_init_14 rfl ?_
  refine xv_newi (N := 160) (kc' := 1) (ks' := 3) (q := 19) rfl dX1_init_17 rfl (by omega) ac_int (by omega) (by omega) ?_
  refine xv_puta (q := 22) rfl dX1_init_19 f_X1_15 (fun _ => ⟨rfl, rfl⟩) (app_at (app_at zhs)) ?_
  refine xv_aload_n (q := 23) rfl dX1_init_22 rfl rfl ?_
  refine xv_iconst (v := nI 3) (q := 24) rfl dX1_init_23 rfl ?_
  refine xv_newi (N := 3) (kc' := 0) (ks' := 0) (q := 26) rfl dX1_init_24 rfl (by omega) ac_int (by omega) (by omega) ?_
  refine xv_puta (q := 29) rfl dX1_init_26 f_X1_18 (fun _ => ⟨rfl, rfl⟩) (app_at (app_at (app_at zhs))) ?_
  refine xv_vret dX1_init_29 rfl ?_
  try simp only [List.length_append, List.length_cons, List.length_nil, Nat.zero_add, List.append_assoc, List.cons_append, List.nil_append]
  exact xq_rfl
theorem c_X3init {a : Nat} (zhs : sh[a]? = some (3, 3)) : XC E mX3_init (d + 1) 1 40 [.ref a] sh I R L (xq none (sh ++ [(8, 40)]) (xi I a 2 (-1)) (xr R a 0 (some (sh.length))) L) := by
  refine XC.of (by decide) rfl rfl ?_
  refine xv_aload_n (q := 1) rfl dX3_init_0 rfl rfl ?_
  refine xv_objInit (q := 4) rfl dX3_init_1 l_X3_3 oi_inst oi_code (by decide) (by omega) ?_
  refine xv_aload_n (q := 5) rfl dX3_init_4 rfl rfl ?_
  refine xv_bipush (v := nI 40) (q := 7) rfl dX3_init_5 rfl ?_
  refine xv_newi (N := 40) (kc' := 0) (ks' := 0) (q := 9) rfl dX3_init_7 rfl (by omega) ac_int (by omega) (by omega) ?_
  refine xv_puta (q := 12) rfl dX3_init_9 f_X3_9 (fun _ => ⟨rfl, rfl⟩) (app_at zhs) ?_
  refine xv_aload_n (q := 13) rfl dX3_init_12 rfl rfl ?_
  refine xv_iconst (v := (-1)) (q := 14) rfl dX3_init_13 rfl ?_
  refine xv_puti (q := 17) rfl dX3_init_14 f_X3_15 (fun h => by cases h) (app_at zhs) ?_
  refine xv_vret dX3_init_17 rfl ?_
  try simp only [List.length_append, List.length_cons, List.length_nil, Nat.zero_add, List.append_assoc, List.cons_append, List.nil_append]
  exact xq_rfl
theorem c_X5init {a : Nat} (zhs : sh[a]? = some (5, 10)) : XC E mX5_init (d + 2) 16 573 [.ref a] sh I R L (xq none (sh ++ [(0, 10), (8, 5), (8, 5), (8, 5), (8, 5), (8, 5), (8, 5), (8, 5), (8, 10), (8, 10), (8, 10), (8, 5), (8, 5), (8, 450), (8, 6), (8, 32)]) (xi I (sh.length) 8 (nI 1)) (xr (xr (xr (xr (xr (xr (xr (xr (xr (xr (xr (xr (xr (xr (xr (xr R (sh.length) 0 (some (sh.length + 1))) (sh.length) 1 (some (sh.length + 2))) (sh.length) 2 (some (sh.length + 3))) (sh.length) 3 (some (sh.length + 4))) (sh.length) 4 (some (sh.length + 5))) (sh.length) 5 (some (sh.length + 6))) (sh.length) 6 (some (sh.length + 7))) a 0 (some (sh.length))) a 2 (some (sh.length + 8))) a 3 (some (sh.length + 9))) a 4 (some (sh.length + 10))) a 5 (some (sh.length + 11))) a 6 (some (sh.length + 12))) a 7 (some (sh.length + 13))) a 8 (some (sh.length + 14))) a 9 (some (sh.length + 15))) L) := by
  refine XC.of (by decide) rfl rfl ?_
  refine xv_aload_n (q := 1) rfl dX5_init_0 rfl rfl ?_
  refine xv_objInit (q := 4) rfl dX5_init_1 l_X5_3 oi_inst oi_code (by decide) (by omega) ?_
  refine xv_aload_n (q := 5) rfl dX5_init_4 rfl rfl ?_
  refine xv_new (t := 0) (kc' := 15) (ks' := 563) (q := 8) rfl dX5_init_5 (by decide) rfl inX0 tyX0_x nfX0 n_X5_9 ia_X0 iz_X0 (by omega) (by omega) ?_
  refine xv_dup (q := 9) rfl dX5_init_8 rfl ?_
  refine xv_callN (z := mX0_init) (host := "GetsOutFirst") (kc' := 8) (ks' := 528) (as := []) (q := 12) rfl dX5_init_9 (by decide) gX0_init rfl rfl (Nat.le_of_ble_eq_true rfl) (c_X0init (d := d) app_new) (by omega) (by omega) (by omega) ?_
  rintro _ _ _ _ _ ⟨rfl, rfl, rfl, rfl, rfl⟩
  refine xv_puto (q := 15) rfl dX5_init_12 f_X5_12 (fun _ => ⟨rfl, rfl⟩) (app_at (app_at zhs)) ?_
  refine xv_aload_n (q := 16) rfl dX5_init_15 rfl rfl ?_
  refine xv_bipush (v := nI 10) (q := 18) rfl dX5_init_16 rfl ?_
  refine xv_newi (N := 10) (kc' := 7) (ks' := 518) (q := 20) rfl dX5_init_18 rfl (by omega) ac_int (by omega) (by omega) ?_
  refine xv_puta (q := 23) rfl dX5_init_20 f_X5_18 (fun _ => ⟨rfl, rfl⟩) (app_at (app_at (app_at zhs))) ?_
  refine xv_aload_n (q := 24) rfl dX5_init_23 rfl rfl ?_
  refine xv_bipush (v := nI 10) (q := 26) rfl dX5_init_24 rfl ?_
  refine xv_newi (N := 10) (kc' := 6) (ks' := 508) (q := 28) rfl dX5_init_26 rfl (by omega) ac_int (by omega) (by omega) ?_
  refine xv_puta (q := 31) rfl dX5_init_28 f_X5_22 (fun _ => ⟨rfl, rfl⟩) (app_at (app_at (app_at (app_at zhs)))) ?_
  refine xv_aload_n (q := 32) rfl dX5_init_31 rfl rfl ?_
  refine xv_bipush (v := nI 10) (q := 34) rfl dX5_init_32 rfl ?_
  refine xv_newi (N := 10) (kc' := 5) (ks' := 498) (q := 36) rfl dX5_init_34 rfl (by omega) ac_int (by omega) (by omega) ?_
  refine xv_puta (q := 39) rfl dX5_init_36 f_X5_25 (fun _ => ⟨rfl, rfl⟩) (app_at (app_at (app_at (app_at (app_at zhs))))) ?_
  refine xv_aload_n (q := 40) rfl dX5_init_39 rfl rfl ?_
  refine xv_iconst (v := nI 5) (q := 41) rfl dX5_init_40 rfl ?_
  refine xv_newi (N := 5) (kc' := 4) (ks' := 493) (q := 43) rfl dX5_init_41 rfl (by omega) ac_int (by omega) (by omega) ?_
  refine xv_puta (q := 46) rfl dX5_init_43 f_X5_28 (fun _ => ⟨rfl, rfl⟩) (app_at (app_at (app_at (app_at (app_at (app_at zhs)))))) ?_
  refine xv_aload_n (q := 47) rfl dX5_init_46 rfl rfl ?_
  refine xv_iconst (v := nI 5) (q := 48) rfl dX5_init_47 rfl ?_
  refine xv_newi (N := 5) (kc' := 3) (ks' := 488) (q := 50) rfl dX5_init_48 rfl (by omega) ac_int (by omega) (by omega) ?_
  refine xv_puta (q := 53) rfl dX5_init_50 f_X5_31 (fun _ => ⟨rfl, rfl⟩) (app_at (app_at (app_at (app_at (app_at (app_at (app_at zhs))))))) ?_
  refine xv_aload_n (q := 54) rfl dX5_init_53 rfl rfl ?_
  refine xv_sipush (v := nI 450) (q := 57) rfl dX5_init_54 rfl ?_
  refine xv_newi (N := 450) (kc' := 2) (ks' := 38) (q := 59) rfl dX5_init_57 rfl (by omega) ac_int (by omega) (by omega) ?_
  refine xv_puta (q := 62) rfl dX5_init_59 f_X5_34 (fun _ => ⟨rfl, rfl⟩) (app_at (app_at (app_at (app_at (app_at (app_at (app_at (app_at zhs)))))))) ?_
  refine xv_aload_n (q := 63) rfl dX5_init_62 rfl rfl ?_
  refine xv_bipush (v := nI 6) (q := 65) rfl dX5_init_63 rfl ?_
  refine xv_newi (N := 6) (kc' := 1) (ks' := 32) (q := 67) rfl dX5_init_65 rfl (by omega) ac_int (by omega) (by omega) ?_
  refine xv_puta (q := 70) rfl dX5_init_67 f_X5_39 (fun _ => ⟨rfl, rfl⟩) (app_at (app_at (app_at (app_at (app_at (app_at (app_at (app_at (app_at zhs))))))))) ?_
  refine xv_aload_n (q := 71) rfl dX5_init_70 rfl rfl ?_
  refine xv_bipush (v := nI 32) (q := 73) rfl dX5_init_71 rfl ?_
  refine xv_newi (N := 32) (kc' := 0) (ks' := 0) (q := 75) rfl dX5_init_73 rfl (by omega) ac_int (by omega) (by omega) ?_
  refine xv_puta (q := 78) rfl dX5_init_75 f_X5_42 (fun _ => ⟨rfl, rfl⟩) (app_at (app_at (app_at (app_at (app_at (app_at (app_at (app_at (app_at (app_at zhs)))))))))) ?_
  refine xv_vret dX5_init_78 rfl ?_
  try simp only [List.length_append, List.length_cons, List.length_nil, Nat.zero_add, List.append_assoc, List.cons_append, List.nil_append]
  exact xq_rfl
theorem c_X2init {a : Nat} (zhs : sh[a]? = some (2, 4)) : XC E mX2_init (d + 2) 9 50 [.ref a] sh I R L (xq none (sh ++ [(0, 10), (8, 5), (8, 5), (8, 5), (8, 5), (8, 5), (8, 5), (8, 5), (8, 5)]) (xi I (sh.length) 8 (nI 1)) (xr (xr (xr (xr (xr (xr (xr (xr (xr R (sh.length) 0 (some (sh.length + 1))) (sh.length) 1 (some (sh.length + 2))) (sh.length) 2 (some (sh.length + 3))) (sh.length) 3 (some (sh.length + 4))) (sh.length) 4 (some (sh.length + 5))) (sh.length) 5 (some (sh.length + 6))) (sh.length) 6 (some (sh.length + 7))) a 0 (some (sh.length))) a 3 (some (sh.length + 8))) L) := by
  refine XC.of (by decide) rfl rfl ?_
  refine xv_aload_n (q := 1) rfl dX2_init_0 rfl rfl ?_
  refine xv_objInit (q := 4) rfl dX2_init_1 l_X2_3 oi_inst oi_code (by decide) (by omega) ?_
  refine xv_aload_n (q := 5) rfl dX2_init_4 rfl rfl ?_
  refine xv_new (t := 0) (kc' := 8) (ks' := 40) (q := 8) rfl dX2_init_5 (by decide) rfl inX0 tyX0_x nfX0 n_X2_9 ia_X0 iz_X0 (by omega) (by omega) ?_
  refine xv_dup (q := 9) rfl dX2_init_8 rfl ?_
  refine xv_callN (z := mX0_init) (host := "GetsOutFirst") (kc' := 1) (ks' := 5) (as := []) (q := 12) rfl dX2_init_9 (by decide) gX0_init rfl rfl (Nat.le_of_ble_eq_true rfl) (c_X0init (d := d) app_new) (by omega) (by omega) (by omega) ?_
  rintro _ _ _ _ _ ⟨rfl, rfl, rfl, rfl, rfl⟩
  refine xv_puto (q := 15) rfl dX2_init_12 f_X2_12 (fun _ => ⟨rfl, rfl⟩) (app_at (app_at zhs)) ?_
  refine xv_aload_n (q := 16) rfl dX2_init_15 rfl rfl ?_
  refine xv_iconst (v := nI 5) (q := 17) rfl dX2_init_16 rfl ?_
  refine xv_newi (N := 5) (kc' := 0) (ks' := 0) (q := 19) rfl dX2_init_17 rfl (by omega) ac_int (by omega) (by omega) ?_
  refine xv_puta (q := 22) rfl dX2_init_19 f_X2_18 (fun _ => ⟨rfl, rfl⟩) (app_at (app_at (app_at zhs))) ?_
  refine xv_vret dX2_init_22 rfl ?_
  try simp only [List.length_append, List.length_cons, List.length_nil, Nat.zero_add, List.append_assoc, List.cons_append, List.nil_append]
  exact xq_rfl
end INITS
def SHA : XSh := [(6, 9), (0, 10), (8, 5), (8, 5), (8, 5), (8, 5), (8, 5), (8, 5), (8, 5), (0, 10), (8, 5), (8, 5), (8, 5), (8, 5), (8, 5), (8, 5), (8, 5), (1, 9), (8, 160), (8, 160), (8, 3), (10, 6), (11, 4), (5, 10), (0, 10), (8, 5), (8, 5), (8, 5), (8, 5), (8, 5), (8, 5), (8, 5), (8, 10), (8, 10), (8, 10), (8, 5), (8, 5), (8, 450), (8, 6), (8, 32), (2, 4), (0, 10), (8, 5), (8, 5), (8, 5), (8, 5), (8, 5), (8, 5), (8, 5), (8, 5), (4, 2), (8, 3), (8, 3), (3, 3), (8, 40), (3, 3), (8, 40), (3, 3), (8, 40), (3, 3), (8, 40)]
def I00 : XI := fun _ _ => 0
def R00 : XRf := fun _ _ => none
def L00 : XL := fun _ _ => 0
def RAl : List (Nat × Nat × Nat) := [(1, 0, 2), (1, 1, 3), (1, 2, 4), (1, 3, 5), (1, 4, 6), (1, 5, 7), (1, 6, 8), (0, 0, 1), (9, 0, 10), (9, 1, 11), (9, 2, 12), (9, 3, 13), (9, 4, 14), (9, 5, 15), (9, 6, 16), (0, 1, 9), (17, 0, 18), (17, 6, 19), (17, 8, 20), (0, 3, 17), (0, 4, 21), (0, 6, 22), (24, 0, 25), (24, 1, 26), (24, 2, 27), (24, 3, 28), (24, 4, 29), (24, 5, 30), (24, 6, 31), (23, 0, 24), (23, 2, 32), (23, 3, 33), (23, 4, 34), (23, 5, 35), (23, 6, 36), (23, 7, 37), (23, 8, 38), (23, 9, 39), (0, 7, 23), (41, 0, 42), (41, 1, 43), (41, 2, 44), (41, 3, 45), (41, 4, 46), (41, 5, 47), (41, 6, 48), (40, 0, 41), (40, 3, 49), (0, 8, 40), (50, 0, 51), (50, 1, 52), (21, 0, 50), (53, 0, 54), (22, 0, 53), (55, 0, 56), (22, 1, 55), (57, 0, 58), (22, 2, 57), (59, 0, 60), (22, 3, 59)]
def IAl : List (Nat × Nat × Int32) := [(1, 8, (nI 1)), (9, 8, (nI 1)), (24, 8, (nI 1)), (41, 8, (nI 1)), (51, 0, (nI 5)), (51, 1, (nI 1)), (51, 2, (nI 3)), (52, 0, (nI 1)), (52, 1, (nI 2)), (52, 2, (nI 3)), (0, 5, (nI 1)), (53, 2, (-1)), (55, 2, (-1)), (57, 2, (-1)), (59, 2, (-1))]
def RA : XRf := RAl.foldl (fun R q => xr R q.1 q.2.1 (some q.2.2)) R00
def IA : XI := IAl.foldl (fun I q => xi I q.1 q.2.1 q.2.2) I00
set_option maxRecDepth 20000 in
set_option maxHeartbeats 4000000 in
theorem c_X6init {E : XE} {d : Nat} : XC E mX6_init (d + 3) 60 1249 [.ref 0] [(6, 9)] I00 R00 L00 (xq none SHA IA RA L00) := by
  refine XC.of (by decide) rfl rfl ?_
  refine xv_aload_n (q := 1) rfl dX6_init_0 rfl rfl ?_
  refine xv_objInit (q := 4) rfl dX6_init_1 l_X6_1 oi_inst oi_code (by decide) (by omega) ?_
  refine xv_aload_n (q := 5) rfl dX6_init_4 rfl rfl ?_
  refine xv_new (t := 0) (kc' := 59) (ks' := 1239) (q := 8) rfl dX6_init_5 (by decide) rfl inX0 tyX0_x nfX0 n_X6_7 ia_X0 iz_X0 (by omega) (by omega) ?_
  refine xv_dup (q := 9) rfl dX6_init_8 rfl ?_
  refine xv_callN (z := mX0_init) (host := "GetsOutFirst") (kc' := 52) (ks' := 1204) (as := []) (q := 12) rfl dX6_init_9 (by decide) gX0_init rfl rfl (Nat.le_of_ble_eq_true rfl) (c_X0init (d := d) (a := 1) rfl) (by omega) (by omega) (by omega) ?_
  rintro _ _ _ _ _ ⟨rfl, rfl, rfl, rfl, rfl⟩
  refine xv_puto (q := 15) rfl dX6_init_12 f_X6_10 (fun _ => ⟨rfl, rfl⟩) rfl ?_
  refine xv_aload_n (q := 16) rfl dX6_init_15 rfl rfl ?_
  refine xv_new (t := 0) (kc' := 51) (ks' := 1194) (q := 19) rfl dX6_init_16 (by decide) rfl inX0 tyX0_x nfX0 n_X6_7 ia_X0 iz_X0 (by omega) (by omega) ?_
  refine xv_dup (q := 20) rfl dX6_init_19 rfl ?_
  refine xv_callN (z := mX0_init) (host := "GetsOutFirst") (kc' := 44) (ks' := 1159) (as := []) (q := 23) rfl dX6_init_20 (by decide) gX0_init rfl rfl (Nat.le_of_ble_eq_true rfl) (c_X0init (d := d) (a := 9) rfl) (by omega) (by omega) (by omega) ?_
  rintro _ _ _ _ _ ⟨rfl, rfl, rfl, rfl, rfl⟩
  refine xv_puto (q := 26) rfl dX6_init_23 f_X6_16 (fun _ => ⟨rfl, rfl⟩) rfl ?_
  refine xv_aload_n (q := 27) rfl dX6_init_26 rfl rfl ?_
  refine xv_new (t := 1) (kc' := 43) (ks' := 1150) (q := 30) rfl dX6_init_27 (by decide) rfl inX1 tyX1_x nfX1 n_X6_19 ia_X1 iz_X1 (by omega) (by omega) ?_
  refine xv_dup (q := 31) rfl dX6_init_30 rfl ?_
  refine xv_callN (z := mX1_init) (host := "GetsOutFirst") (kc' := 40) (ks' := 827) (as := []) (q := 34) rfl dX6_init_31 (by decide) gX1_init rfl rfl (Nat.le_of_ble_eq_true rfl) (c_X1init (d := d) (a := 17) rfl) (by omega) (by omega) (by omega) ?_
  rintro _ _ _ _ _ ⟨rfl, rfl, rfl, rfl, rfl⟩
  refine xv_puto (q := 37) rfl dX6_init_34 f_X6_22 (fun _ => ⟨rfl, rfl⟩) rfl ?_
  refine xv_aload_n (q := 38) rfl dX6_init_37 rfl rfl ?_
  refine xv_bipush (v := nI 6) (q := 40) rfl dX6_init_38 rfl ?_
  refine xv_newq (N := 6) (t := 10) (kc' := 39) (ks' := 821) (q := 43) rfl dX6_init_40 rfl (by omega) n_X6_26 (by decide) (xty2 E) (fun U h => h.1) (by omega) (by omega) ?_
  refine xv_puta (q := 46) rfl dX6_init_43 f_X6_28 (fun _ => ⟨rfl, rfl⟩) rfl ?_
  refine xv_aload_n (q := 47) rfl dX6_init_46 rfl rfl ?_
  refine xv_iconst (v := nI 4) (q := 48) rfl dX6_init_47 rfl ?_
  refine xv_newq (N := 4) (t := 11) (kc' := 38) (ks' := 817) (q := 51) rfl dX6_init_48 rfl (by omega) n_X6_32 (by decide) (xty3 E) (fun U h => h.2.1) (by omega) (by omega) ?_
  refine xv_puta (q := 54) rfl dX6_init_51 f_X6_34 (fun _ => ⟨rfl, rfl⟩) rfl ?_
  refine xv_aload_n (q := 55) rfl dX6_init_54 rfl rfl ?_
  refine xv_new (t := 5) (kc' := 37) (ks' := 807) (q := 58) rfl dX6_init_55 (by decide) rfl inX5 tyX5_x nfX5 n_X6_38 ia_X5 iz_X5 (by omega) (by omega) ?_
  refine xv_dup (q := 59) rfl dX6_init_58 rfl ?_
  refine xv_callN (z := mX5_init) (host := "GetsOutFirst") (kc' := 21) (ks' := 234) (as := []) (q := 62) rfl dX6_init_59 (by decide) gX5_init rfl rfl (Nat.le_of_ble_eq_true rfl) (c_X5init (d := d) (a := 23) rfl) (by omega) (by omega) (by omega) ?_
  rintro _ _ _ _ _ ⟨rfl, rfl, rfl, rfl, rfl⟩
  refine xv_puto (q := 65) rfl dX6_init_62 f_X6_41 (fun _ => ⟨rfl, rfl⟩) rfl ?_
  refine xv_aload_n (q := 66) rfl dX6_init_65 rfl rfl ?_
  refine xv_new (t := 2) (kc' := 20) (ks' := 230) (q := 69) rfl dX6_init_66 (by decide) rfl inX2 tyX2_x nfX2 n_X6_45 ia_X2 iz_X2 (by omega) (by omega) ?_
  refine xv_dup (q := 70) rfl dX6_init_69 rfl ?_
  refine xv_callN (z := mX2_init) (host := "GetsOutFirst") (kc' := 11) (ks' := 180) (as := []) (q := 73) rfl dX6_init_70 (by decide) gX2_init rfl rfl (Nat.le_of_ble_eq_true rfl) (c_X2init (d := d) (a := 40) rfl) (by omega) (by omega) (by omega) ?_
  rintro _ _ _ _ _ ⟨rfl, rfl, rfl, rfl, rfl⟩
  refine xv_puto (q := 76) rfl dX6_init_73 f_X6_48 (fun _ => ⟨rfl, rfl⟩) rfl ?_
  refine xv_aload_n (q := 77) rfl dX6_init_76 rfl rfl ?_
  refine xv_geta (q := 80) rfl dX6_init_77 f_X6_28 rfl rfl ?_
  refine xv_iconst (v := nI 0) (q := 81) rfl dX6_init_80 rfl ?_
  refine xv_new (t := 4) (kc' := 10) (ks' := 178) (q := 84) rfl dX6_init_81 (by decide) rfl inX4 tyX4_x nfX4 n_X6_26 ia_X4 iz_X4 (by omega) (by omega) ?_
  refine xv_dup (q := 85) rfl dX6_init_84 rfl ?_
  refine xv_iconst (v := nI 3) (q := 86) rfl dX6_init_85 rfl ?_
  refine xv_newi (N := 3) (kc' := 9) (ks' := 175) (q := 88) rfl dX6_init_86 rfl (by omega) ac_int (by omega) (by omega) ?_
  refine xv_dup (q := 89) rfl dX6_init_88 rfl ?_
  refine xv_iconst (v := nI 0) (q := 90) rfl dX6_init_89 rfl ?_
  refine xv_iconst (v := nI 5) (q := 91) rfl dX6_init_90 rfl ?_
  refine xv_iast (q := 92) rfl dX6_init_91 rfl rfl (show 0 < 3 by decide) (by decide) ?_
  refine xv_dup (q := 93) rfl dX6_init_92 rfl ?_
  refine xv_iconst (v := nI 1) (q := 94) rfl dX6_init_93 rfl ?_
  refine xv_iconst (v := nI 1) (q := 95) rfl dX6_init_94 rfl ?_
  refine xv_iast (q := 96) rfl dX6_init_95 rfl rfl (show 1 < 3 by decide) (by decide) ?_
  refine xv_dup (q := 97) rfl dX6_init_96 rfl ?_
  refine xv_iconst (v := nI 2) (q := 98) rfl dX6_init_97 rfl ?_
  refine xv_iconst (v := nI 3) (q := 99) rfl dX6_init_98 rfl ?_
  refine xv_iast (q := 100) rfl dX6_init_99 rfl rfl (show 2 < 3 by decide) (by decide) ?_
  refine xv_iconst (v := nI 3) (q := 101) rfl dX6_init_100 rfl ?_
  refine xv_newi (N := 3) (kc' := 8) (ks' := 172) (q := 103) rfl dX6_init_101 rfl (by omega) ac_int (by omega) (by omega) ?_
  refine xv_dup (q := 104) rfl dX6_init_103 rfl ?_
  refine xv_iconst (v := nI 0) (q := 105) rfl dX6_init_104 rfl ?_
  refine xv_iconst (v := nI 1) (q := 106) rfl dX6_init_105 rfl ?_
  refine xv_iast (q := 107) rfl dX6_init_106 rfl rfl (show 0 < 3 by decide) (by decide) ?_
  refine xv_dup (q := 108) rfl dX6_init_107 rfl ?_
  refine xv_iconst (v := nI 1) (q := 109) rfl dX6_init_108 rfl ?_
  refine xv_iconst (v := nI 2) (q := 110) rfl dX6_init_109 rfl ?_
  refine xv_iast (q := 111) rfl dX6_init_110 rfl rfl (show 1 < 3 by decide) (by decide) ?_
  refine xv_dup (q := 112) rfl dX6_init_111 rfl ?_
  refine xv_iconst (v := nI 2) (q := 113) rfl dX6_init_112 rfl ?_
  refine xv_iconst (v := nI 3) (q := 114) rfl dX6_init_113 rfl ?_
  refine xv_iast (q := 115) rfl dX6_init_114 rfl rfl (show 2 < 3 by decide) (by decide) ?_
  refine xv_callI (z := mX4_init) (kc' := 8) (ks' := 172) (as := [.ref 51, .ref 52]) (q := 118) rfl dX6_init_115 l_X6_52 gX4_init rfl rfl (Nat.le_of_ble_eq_true rfl) (c_Tinit (d := d) (t := 50) (ca := 51) (ea := 52) rfl) (by omega) (by omega) (by omega) ?_
  rintro _ _ _ _ _ ⟨rfl, rfl, rfl, rfl, rfl⟩
  refine xv_aast (j := 0) (v := 50) (C := "GetsOutFirst$Text") (q := 119) rfl dX6_init_118 rfl rfl (show 0 < 6 by decide) (by decide) (by decide) (xty2 E) (show 4 < 8 by decide) rfl rfl ?_
  refine xv_aload_n (q := 120) rfl dX6_init_119 rfl rfl ?_
  refine xv_iconst (v := nI 1) (q := 121) rfl dX6_init_120 rfl ?_
  refine xv_puti (q := 124) rfl dX6_init_121 f_X6_55 (fun h => by cases h) rfl ?_
  refine xv_iconst (v := nI 0) (q := 125) rfl dX6_init_124 rfl ?_
  refine xv_istore_n (q := 126) rfl dX6_init_125 rfl rfl ?_
  refine xv_iload_n (q := 127) rfl dX6_init_126 rfl rfl ?_
  refine xv_iconst (v := nI 4) (q := 128) rfl dX6_init_127 rfl ?_
  refine xv_icmp_ge (q := 131) (t := 150) rfl rfl dX6_init_128 (fun h128 => ?_) (fun h128 => ?_)
  · exact absurd h128 (by decide)
  · refine xv_aload_n (q := 132) rfl dX6_init_131 rfl rfl ?_
    refine xv_geta (q := 135) rfl dX6_init_132 f_X6_34 rfl rfl ?_
    refine xv_iload_n (q := 136) rfl dX6_init_135 rfl rfl ?_
    refine xv_new (t := 3) (kc' := 7) (ks' := 169) (q := 139) rfl dX6_init_136 (by decide) rfl inX3 tyX3_x nfX3 n_X6_32 ia_X3 iz_X3 (by omega) (by omega) ?_
    refine xv_dup (q := 140) rfl dX6_init_139 rfl ?_
    refine xv_callN (z := mX3_init) (host := "GetsOutFirst") (kc' := 6) (ks' := 129) (as := []) (q := 143) rfl dX6_init_140 (by decide) gX3_init rfl rfl (Nat.le_of_ble_eq_true rfl) (c_X3init (d := d) (a := 53) rfl) (by omega) (by omega) (by omega) ?_
    rintro _ _ _ _ _ ⟨rfl, rfl, rfl, rfl, rfl⟩
    refine xv_aast (j := 0) (v := 53) (C := "GetsOutFirst$Sheet") (q := 144) rfl dX6_init_143 rfl rfl (show 0 < 4 by decide) (by decide) (by decide) (xty3 E) (show 3 < 8 by decide) rfl rfl ?_
    refine xv_iinc (q := 147) (v := nI 1) rfl dX6_init_144 rfl rfl ?_
    refine xv_ls (ls' := [some (.ref 0), some (.int (nI 1))]) rfl ?_
    refine xv_goto (t := 126) rfl dX6_init_147 ?_
    refine xv_iload_n (q := 127) rfl dX6_init_126 rfl rfl ?_
    refine xv_iconst (v := nI 4) (q := 128) rfl dX6_init_127 rfl ?_
    refine xv_icmp_ge (q := 131) (t := 150) rfl rfl dX6_init_128 (fun h128 => ?_) (fun h128 => ?_)
    · exact absurd h128 (by decide)
    · refine xv_aload_n (q := 132) rfl dX6_init_131 rfl rfl ?_
      refine xv_geta (q := 135) rfl dX6_init_132 f_X6_34 rfl rfl ?_
      refine xv_iload_n (q := 136) rfl dX6_init_135 rfl rfl ?_
      refine xv_new (t := 3) (kc' := 5) (ks' := 126) (q := 139) rfl dX6_init_136 (by decide) rfl inX3 tyX3_x nfX3 n_X6_32 ia_X3 iz_X3 (by omega) (by omega) ?_
      refine xv_dup (q := 140) rfl dX6_init_139 rfl ?_
      refine xv_callN (z := mX3_init) (host := "GetsOutFirst") (kc' := 4) (ks' := 86) (as := []) (q := 143) rfl dX6_init_140 (by decide) gX3_init rfl rfl (Nat.le_of_ble_eq_true rfl) (c_X3init (d := d) (a := 55) rfl) (by omega) (by omega) (by omega) ?_
      rintro _ _ _ _ _ ⟨rfl, rfl, rfl, rfl, rfl⟩
      refine xv_aast (j := 1) (v := 55) (C := "GetsOutFirst$Sheet") (q := 144) rfl dX6_init_143 rfl rfl (show 1 < 4 by decide) (by decide) (by decide) (xty3 E) (show 3 < 8 by decide) rfl rfl ?_
      refine xv_iinc (q := 147) (v := nI 1) rfl dX6_init_144 rfl rfl ?_
      refine xv_ls (ls' := [some (.ref 0), some (.int (nI 2))]) rfl ?_
      refine xv_goto (t := 126) rfl dX6_init_147 ?_
      refine xv_iload_n (q := 127) rfl dX6_init_126 rfl rfl ?_
      refine xv_iconst (v := nI 4) (q := 128) rfl dX6_init_127 rfl ?_
      refine xv_icmp_ge (q := 131) (t := 150) rfl rfl dX6_init_128 (fun h128 => ?_) (fun h128 => ?_)
      · exact absurd h128 (by decide)
      · refine xv_aload_n (q := 132) rfl dX6_init_131 rfl rfl ?_
        refine xv_geta (q := 135) rfl dX6_init_132 f_X6_34 rfl rfl ?_
        refine xv_iload_n (q := 136) rfl dX6_init_135 rfl rfl ?_
        refine xv_new (t := 3) (kc' := 3) (ks' := 83) (q := 139) rfl dX6_init_136 (by decide) rfl inX3 tyX3_x nfX3 n_X6_32 ia_X3 iz_X3 (by omega) (by omega) ?_
        refine xv_dup (q := 140) rfl dX6_init_139 rfl ?_
        refine xv_callN (z := mX3_init) (host := "GetsOutFirst") (kc' := 2) (ks' := 43) (as := []) (q := 143) rfl dX6_init_140 (by decide) gX3_init rfl rfl (Nat.le_of_ble_eq_true rfl) (c_X3init (d := d) (a := 57) rfl) (by omega) (by omega) (by omega) ?_
        rintro _ _ _ _ _ ⟨rfl, rfl, rfl, rfl, rfl⟩
        refine xv_aast (j := 2) (v := 57) (C := "GetsOutFirst$Sheet") (q := 144) rfl dX6_init_143 rfl rfl (show 2 < 4 by decide) (by decide) (by decide) (xty3 E) (show 3 < 8 by decide) rfl rfl ?_
        refine xv_iinc (q := 147) (v := nI 1) rfl dX6_init_144 rfl rfl ?_
        refine xv_ls (ls' := [some (.ref 0), some (.int (nI 3))]) rfl ?_
        refine xv_goto (t := 126) rfl dX6_init_147 ?_
        refine xv_iload_n (q := 127) rfl dX6_init_126 rfl rfl ?_
        refine xv_iconst (v := nI 4) (q := 128) rfl dX6_init_127 rfl ?_
        refine xv_icmp_ge (q := 131) (t := 150) rfl rfl dX6_init_128 (fun h128 => ?_) (fun h128 => ?_)
        · exact absurd h128 (by decide)
        · refine xv_aload_n (q := 132) rfl dX6_init_131 rfl rfl ?_
          refine xv_geta (q := 135) rfl dX6_init_132 f_X6_34 rfl rfl ?_
          refine xv_iload_n (q := 136) rfl dX6_init_135 rfl rfl ?_
          refine xv_new (t := 3) (kc' := 1) (ks' := 40) (q := 139) rfl dX6_init_136 (by decide) rfl inX3 tyX3_x nfX3 n_X6_32 ia_X3 iz_X3 (by omega) (by omega) ?_
          refine xv_dup (q := 140) rfl dX6_init_139 rfl ?_
          refine xv_callN (z := mX3_init) (host := "GetsOutFirst") (kc' := 0) (ks' := 0) (as := []) (q := 143) rfl dX6_init_140 (by decide) gX3_init rfl rfl (Nat.le_of_ble_eq_true rfl) (c_X3init (d := d) (a := 59) rfl) (by omega) (by omega) (by omega) ?_
          rintro _ _ _ _ _ ⟨rfl, rfl, rfl, rfl, rfl⟩
          refine xv_aast (j := 3) (v := 59) (C := "GetsOutFirst$Sheet") (q := 144) rfl dX6_init_143 rfl rfl (show 3 < 4 by decide) (by decide) (by decide) (xty3 E) (show 3 < 8 by decide) rfl rfl ?_
          refine xv_iinc (q := 147) (v := nI 1) rfl dX6_init_144 rfl rfl ?_
          refine xv_ls (ls' := [some (.ref 0), some (.int (nI 4))]) rfl ?_
          refine xv_goto (t := 126) rfl dX6_init_147 ?_
          refine xv_iload_n (q := 127) rfl dX6_init_126 rfl rfl ?_
          refine xv_iconst (v := nI 4) (q := 128) rfl dX6_init_127 rfl ?_
          refine xv_icmp_ge (q := 131) (t := 150) rfl rfl dX6_init_128 (fun h128 => ?_) (fun h128 => ?_)
          · refine xv_vret dX6_init_150 rfl ?_
            exact xq_of rfl rfl rfl
          · exact absurd h128 (by decide)

/-! the constructor of the model, and what both begin with -/
theorem m_spell {E : XE} {d : Nat} {sh : XSh} {I : XI} {R : XRf} {L : XL} (zh53 : sh[61]? = some (7, 49)) (zh54 : sh[62]? = some (8, 960)) (zhr : R 61 1 = some 62) {at_ : Nat} (zha : at_ + 8 ≤ 960) (x1 x2 x3 x4 x5 x6 x7 x8 : Int32) : XC E mX7_spell d 0 0 [.ref 61, .int (nI at_), .int x1, .int x2, .int x3, .int x4, .int x5, .int x6, .int x7, .int x8] sh I R L (xq none sh (xi (xi (xi (xi (xi (xi (xi (xi I 62 at_ x1) 62 (at_ + 1) x2) 62 (at_ + 2) x3) 62 (at_ + 3) x4) 62 (at_ + 4) x5) 62 (at_ + 5) x6) 62 (at_ + 6) x7) 62 (at_ + 7) x8) R L) := by
  refine XC.of (by decide) rfl rfl ?_
  refine xv_aload_n (q := 1) rfl dX7_spell_0 rfl rfl ?_
  refine xv_geta (q := 4) rfl dX7_spell_1 f_X7_13 zh53 zhr ?_
  refine xv_iload_n (q := 5) rfl dX7_spell_4 rfl rfl ?_
  refine xv_iload_n (q := 6) rfl dX7_spell_5 rfl rfl ?_
  refine xv_iast (q := 7) rfl dX7_spell_6 zh54 rfl (by omega) (by decide) ?_
  refine xv_aload_n (q := 8) rfl dX7_spell_7 rfl rfl ?_
  refine xv_geta (q := 11) rfl dX7_spell_8 f_X7_13 zh53 zhr ?_
  refine xv_iload_n (q := 12) rfl dX7_spell_11 rfl rfl ?_
  refine xv_iconst (v := nI 1) (q := 13) rfl dX7_spell_12 rfl ?_
  refine xv_iadd (q := 14) rfl dX7_spell_13 ?_
  refine xv_as (w := nI (at_ + 1)) (nI_add _ _) ?_
  refine xv_iload_n (q := 15) rfl dX7_spell_14 rfl rfl ?_
  refine xv_iast (q := 16) rfl dX7_spell_15 zh54 rfl (by omega) (by decide) ?_
  refine xv_aload_n (q := 17) rfl dX7_spell_16 rfl rfl ?_
  refine xv_geta (q := 20) rfl dX7_spell_17 f_X7_13 zh53 zhr ?_
  refine xv_iload_n (q := 21) rfl dX7_spell_20 rfl rfl ?_
  refine xv_iconst (v := nI 2) (q := 22) rfl dX7_spell_21 rfl ?_
  refine xv_iadd (q := 23) rfl dX7_spell_22 ?_
  refine xv_as (w := nI (at_ + 2)) (nI_add _ _) ?_
  refine xv_iload (q := 25) rfl dX7_spell_23 rfl ?_
  refine xv_iast (q := 26) rfl dX7_spell_25 zh54 rfl (by omega) (by decide) ?_
  refine xv_aload_n (q := 27) rfl dX7_spell_26 rfl rfl ?_
  refine xv_geta (q := 30) rfl dX7_spell_27 f_X7_13 zh53 zhr ?_
  refine xv_iload_n (q := 31) rfl dX7_spell_30 rfl rfl ?_
  refine xv_iconst (v := nI 3) (q := 32) rfl dX7_spell_31 rfl ?_
  refine xv_iadd (q := 33) rfl dX7_spell_32 ?_
  refine xv_as (w := nI (at_ + 3)) (nI_add _ _) ?_
  refine xv_iload (q := 35) rfl dX7_spell_33 rfl ?_
  refine xv_iast (q := 36) rfl dX7_spell_35 zh54 rfl (by omega) (by decide) ?_
  refine xv_aload_n (q := 37) rfl dX7_spell_36 rfl rfl ?_
  refine xv_geta (q := 40) rfl dX7_spell_37 f_X7_13 zh53 zhr ?_
  refine xv_iload_n (q := 41) rfl dX7_spell_40 rfl rfl ?_
  refine xv_iconst (v := nI 4) (q := 42) rfl dX7_spell_41 rfl ?_
  refine xv_iadd (q := 43) rfl dX7_spell_42 ?_
  refine xv_as (w := nI (at_ + 4)) (nI_add _ _) ?_
  refine xv_iload (q := 45) rfl dX7_spell_43 rfl ?_
  refine xv_iast (q := 46) rfl dX7_spell_45 zh54 rfl (by omega) (by decide) ?_
  refine xv_aload_n (q := 47) rfl dX7_spell_46 rfl rfl ?_
  refine xv_geta (q := 50) rfl dX7_spell_47 f_X7_13 zh53 zhr ?_
  refine xv_iload_n (q := 51) rfl dX7_spell_50 rfl rfl ?_
  refine xv_iconst (v := nI 5) (q := 52) rfl dX7_spell_51 rfl ?_
  refine xv_iadd (q := 53) rfl dX7_spell_52 ?_
  refine xv_as (w := nI (at_ + 5)) (nI_add _ _) ?_
  refine xv_iload (q := 55) rfl dX7_spell_53 rfl ?_
  refine xv_iast (q := 56) rfl dX7_spell_55 zh54 rfl (by omega) (by decide) ?_
  refine xv_aload_n (q := 57) rfl dX7_spell_56 rfl rfl ?_
  refine xv_geta (q := 60) rfl dX7_spell_57 f_X7_13 zh53 zhr ?_
  refine xv_iload_n (q := 61) rfl dX7_spell_60 rfl rfl ?_
  refine xv_bipush (v := nI 6) (q := 63) rfl dX7_spell_61 rfl ?_
  refine xv_iadd (q := 64) rfl dX7_spell_63 ?_
  refine xv_as (w := nI (at_ + 6)) (nI_add _ _) ?_
  refine xv_iload (q := 66) rfl dX7_spell_64 rfl ?_
  refine xv_iast (q := 67) rfl dX7_spell_66 zh54 rfl (by omega) (by decide) ?_
  refine xv_aload_n (q := 68) rfl dX7_spell_67 rfl rfl ?_
  refine xv_geta (q := 71) rfl dX7_spell_68 f_X7_13 zh53 zhr ?_
  refine xv_iload_n (q := 72) rfl dX7_spell_71 rfl rfl ?_
  refine xv_bipush (v := nI 7) (q := 74) rfl dX7_spell_72 rfl ?_
  refine xv_iadd (q := 75) rfl dX7_spell_74 ?_
  refine xv_as (w := nI (at_ + 7)) (nI_add _ _) ?_
  refine xv_iload (q := 77) rfl dX7_spell_75 rfl ?_
  refine xv_iast (q := 78) rfl dX7_spell_77 zh54 rfl (by omega) (by decide) ?_
  refine xv_vret dX7_spell_78 rfl ?_
  exact xq_rfl
def RBl : List (Nat × Nat × Nat) := [(61, 1, 62), (61, 2, 63), (61, 5, 64), (61, 8, 65), (61, 9, 66), (61, 10, 67), (61, 11, 68), (61, 12, 69), (61, 13, 70), (61, 14, 71), (61, 31, 72), (61, 32, 73), (61, 33, 74), (61, 37, 75), (61, 38, 76), (61, 41, 77), (61, 45, 78), (61, 46, 79), (61, 47, 80), (61, 48, 81)]
def IBl : List (Nat × Nat × Int32) := [(61, 7, (nI 1)), (61, 42, (-1)), (62, 0, (nI 115)), (62, 1, (nI 116)), (62, 2, (nI 101)), (62, 3, (nI 112)), (62, 4, (nI 115)), (62, 5, (nI 32)), (62, 6, (nI 53)), (62, 7, (nI 32)), (62, 8, (nI 59)), (62, 9, (nI 32)), (62, 10, (nI 108)), (62, 11, (nI 97)), (62, 12, (nI 116)), (62, 13, (nI 101)), (62, 14, (nI 32)), (62, 15, (nI 49)), (62, 16, (nI 32)), (62, 17, (nI 59)), (62, 18, (nI 32)), (62, 19, (nI 109)), (62, 20, (nI 111)), (62, 21, (nI 118)), (62, 22, (nI 101)), (62, 23, (nI 115)), (62, 24, (nI 32)), (62, 25, (nI 51)), (62, 26, (nI 32)), (62, 27, (nI 59)), (62, 28, (nI 32)), (62, 29, (nI 32)), (62, 30, (nI 32)), (62, 31, (nI 32)), (63, 0, (nI 32)), (61, 3, (nI 1))]
def RB : XRf := RBl.foldl (fun R q => xr R q.1 q.2.1 (some q.2.2)) RA
def IB : XI := IBl.foldl (fun I q => xi I q.1 q.2.1 q.2.2) IA
set_option maxRecDepth 20000 in
set_option maxHeartbeats 4000000 in
theorem c_X7init {E : XE} {d : Nat} : XC E mX7_init (d + 1) 20 1683 [.ref 61] (SHA ++ [(7, 49)]) IA RA L00 (xq none SHL IB RB L00) := by
  refine XC.of (by decide) rfl rfl ?_
  refine xv_aload_n (q := 1) rfl dX7_init_0 rfl rfl ?_
  refine xv_objInit (q := 4) rfl dX7_init_1 l_X7_7 oi_inst oi_code (by decide) (by omega) ?_
  refine xv_aload_n (q := 5) rfl dX7_init_4 rfl rfl ?_
  refine xv_sipush (v := nI 960) (q := 8) rfl dX7_init_5 rfl ?_
  refine xv_newi (N := 960) (kc' := 19) (ks' := 723) (q := 10) rfl dX7_init_8 rfl (by omega) ac_int (by omega) (by omega) ?_
  refine xv_puta (q := 13) rfl dX7_init_10 f_X7_13 (fun _ => ⟨rfl, rfl⟩) rfl ?_
  refine xv_aload_n (q := 14) rfl dX7_init_13 rfl rfl ?_
  refine xv_bipush (v := nI 6) (q := 16) rfl dX7_init_14 rfl ?_
  refine xv_newi (N := 6) (kc' := 18) (ks' := 717) (q := 18) rfl dX7_init_16 rfl (by omega) ac_int (by omega) (by omega) ?_
  refine xv_puta (q := 21) rfl dX7_init_18 f_X7_17 (fun _ => ⟨rfl, rfl⟩) rfl ?_
  refine xv_aload_n (q := 22) rfl dX7_init_21 rfl rfl ?_
  refine xv_sipush (v := nI 160) (q := 25) rfl dX7_init_22 rfl ?_
  refine xv_newi (N := 160) (kc' := 17) (ks' := 557) (q := 27) rfl dX7_init_25 rfl (by omega) ac_int (by omega) (by omega) ?_
  refine xv_puta (q := 30) rfl dX7_init_27 f_X7_20 (fun _ => ⟨rfl, rfl⟩) rfl ?_
  refine xv_aload_n (q := 31) rfl dX7_init_30 rfl rfl ?_
  refine xv_iconst (v := nI 1) (q := 32) rfl dX7_init_31 rfl ?_
  refine xv_puti (q := 35) rfl dX7_init_32 f_X7_23 (fun h => by cases h) rfl ?_
  refine xv_aload_n (q := 36) rfl dX7_init_35 rfl rfl ?_
  refine xv_iconst (v := nI 5) (q := 37) rfl dX7_init_36 rfl ?_
  refine xv_newi (N := 5) (kc' := 16) (ks' := 552) (q := 39) rfl dX7_init_37 rfl (by omega) ac_int (by omega) (by omega) ?_
  refine xv_puta (q := 42) rfl dX7_init_39 f_X7_26 (fun _ => ⟨rfl, rfl⟩) rfl ?_
  refine xv_aload_n (q := 43) rfl dX7_init_42 rfl rfl ?_
  refine xv_iconst (v := nI 5) (q := 44) rfl dX7_init_43 rfl ?_
  refine xv_newi (N := 5) (kc' := 15) (ks' := 547) (q := 46) rfl dX7_init_44 rfl (by omega) ac_int (by omega) (by omega) ?_
  refine xv_puta (q := 49) rfl dX7_init_46 f_X7_29 (fun _ => ⟨rfl, rfl⟩) rfl ?_
  refine xv_aload_n (q := 50) rfl dX7_init_49 rfl rfl ?_
  refine xv_iconst (v := nI 5) (q := 51) rfl dX7_init_50 rfl ?_
  refine xv_newi (N := 5) (kc' := 14) (ks' := 542) (q := 53) rfl dX7_init_51 rfl (by omega) ac_int (by omega) (by omega) ?_
  refine xv_puta (q := 56) rfl dX7_init_53 f_X7_32 (fun _ => ⟨rfl, rfl⟩) rfl ?_
  refine xv_aload_n (q := 57) rfl dX7_init_56 rfl rfl ?_
  refine xv_iconst (v := nI 5) (q := 58) rfl dX7_init_57 rfl ?_
  refine xv_newi (N := 5) (kc' := 13) (ks' := 537) (q := 60) rfl dX7_init_58 rfl (by omega) ac_int (by omega) (by omega) ?_
  refine xv_puta (q := 63) rfl dX7_init_60 f_X7_35 (fun _ => ⟨rfl, rfl⟩) rfl ?_
  refine xv_aload_n (q := 64) rfl dX7_init_63 rfl rfl ?_
  refine xv_iconst (v := nI 5) (q := 65) rfl dX7_init_64 rfl ?_
  refine xv_newi (N := 5) (kc' := 12) (ks' := 532) (q := 67) rfl dX7_init_65 rfl (by omega) ac_int (by omega) (by omega) ?_
  refine xv_puta (q := 70) rfl dX7_init_67 f_X7_38 (fun _ => ⟨rfl, rfl⟩) rfl ?_
  refine xv_aload_n (q := 71) rfl dX7_init_70 rfl rfl ?_
  refine xv_iconst (v := nI 5) (q := 72) rfl dX7_init_71 rfl ?_
  refine xv_newi (N := 5) (kc' := 11) (ks' := 527) (q := 74) rfl dX7_init_72 rfl (by omega) ac_int (by omega) (by omega) ?_
  refine xv_puta (q := 77) rfl dX7_init_74 f_X7_41 (fun _ => ⟨rfl, rfl⟩) rfl ?_
  refine xv_aload_n (q := 78) rfl dX7_init_77 rfl rfl ?_
  refine xv_iconst (v := nI 5) (q := 79) rfl dX7_init_78 rfl ?_
  refine xv_newi (N := 5) (kc' := 10) (ks' := 522) (q := 81) rfl dX7_init_79 rfl (by omega) ac_int (by omega) (by omega) ?_
  refine xv_puta (q := 84) rfl dX7_init_81 f_X7_44 (fun _ => ⟨rfl, rfl⟩) rfl ?_
  refine xv_aload_n (q := 85) rfl dX7_init_84 rfl rfl ?_
  refine xv_sipush (v := nI 150) (q := 88) rfl dX7_init_85 rfl ?_
  refine xv_newi (N := 150) (kc' := 9) (ks' := 372) (q := 90) rfl dX7_init_88 rfl (by omega) ac_int (by omega) (by omega) ?_
  refine xv_puta (q := 93) rfl dX7_init_90 f_X7_47 (fun _ => ⟨rfl, rfl⟩) rfl ?_
  refine xv_aload_n (q := 94) rfl dX7_init_93 rfl rfl ?_
  refine xv_sipush (v := nI 150) (q := 97) rfl dX7_init_94 rfl ?_
  refine xv_newi (N := 150) (kc' := 8) (ks' := 222) (q := 99) rfl dX7_init_97 rfl (by omega) ac_int (by omega) (by omega) ?_
  refine xv_puta (q := 102) rfl dX7_init_99 f_X7_50 (fun _ => ⟨rfl, rfl⟩) rfl ?_
  refine xv_aload_n (q := 103) rfl dX7_init_102 rfl rfl ?_
  refine xv_bipush (v := nI 15) (q := 105) rfl dX7_init_103 rfl ?_
  refine xv_newi (N := 15) (kc' := 7) (ks' := 207) (q := 107) rfl dX7_init_105 rfl (by omega) ac_int (by omega) (by omega) ?_
  refine xv_puta (q := 110) rfl dX7_init_107 f_X7_53 (fun _ => ⟨rfl, rfl⟩) rfl ?_
  refine xv_aload_n (q := 111) rfl dX7_init_110 rfl rfl ?_
  refine xv_iconst (v := nI 5) (q := 112) rfl dX7_init_111 rfl ?_
  refine xv_newi (N := 5) (kc' := 6) (ks' := 202) (q := 114) rfl dX7_init_112 rfl (by omega) ac_int (by omega) (by omega) ?_
  refine xv_puta (q := 117) rfl dX7_init_114 f_X7_56 (fun _ => ⟨rfl, rfl⟩) rfl ?_
  refine xv_aload_n (q := 118) rfl dX7_init_117 rfl rfl ?_
  refine xv_iconst (v := nI 5) (q := 119) rfl dX7_init_118 rfl ?_
  refine xv_newi (N := 5) (kc' := 5) (ks' := 197) (q := 121) rfl dX7_init_119 rfl (by omega) ac_int (by omega) (by omega) ?_
  refine xv_puta (q := 124) rfl dX7_init_121 f_X7_59 (fun _ => ⟨rfl, rfl⟩) rfl ?_
  refine xv_aload_n (q := 125) rfl dX7_init_124 rfl rfl ?_
  refine xv_bipush (v := nI 25) (q := 127) rfl dX7_init_125 rfl ?_
  refine xv_newi (N := 25) (kc' := 4) (ks' := 172) (q := 129) rfl dX7_init_127 rfl (by omega) ac_int (by omega) (by omega) ?_
  refine xv_puta (q := 132) rfl dX7_init_129 f_X7_62 (fun _ => ⟨rfl, rfl⟩) rfl ?_
  refine xv_aload_n (q := 133) rfl dX7_init_132 rfl rfl ?_
  refine xv_iconst (v := (-1)) (q := 134) rfl dX7_init_133 rfl ?_
  refine xv_puti (q := 137) rfl dX7_init_134 f_X7_65 (fun h => by cases h) rfl ?_
  refine xv_aload_n (q := 138) rfl dX7_init_137 rfl rfl ?_
  refine xv_iconst (v := nI 4) (q := 139) rfl dX7_init_138 rfl ?_
  refine xv_newz (N := 4) (kc' := 3) (ks' := 168) (q := 141) rfl dX7_init_139 rfl (by omega) ac_boolean (by omega) (by omega) ?_
  refine xv_puta (q := 144) rfl dX7_init_141 f_X7_68 (fun _ => ⟨rfl, rfl⟩) rfl ?_
  refine xv_aload_n (q := 145) rfl dX7_init_144 rfl rfl ?_
  refine xv_iconst (v := nI 4) (q := 146) rfl dX7_init_145 rfl ?_
  refine xv_newi (N := 4) (kc' := 2) (ks' := 164) (q := 148) rfl dX7_init_146 rfl (by omega) ac_int (by omega) (by omega) ?_
  refine xv_puta (q := 151) rfl dX7_init_148 f_X7_72 (fun _ => ⟨rfl, rfl⟩) rfl ?_
  refine xv_aload_n (q := 152) rfl dX7_init_151 rfl rfl ?_
  refine xv_iconst (v := nI 4) (q := 153) rfl dX7_init_152 rfl ?_
  refine xv_newi (N := 4) (kc' := 1) (ks' := 160) (q := 155) rfl dX7_init_153 rfl (by omega) ac_int (by omega) (by omega) ?_
  refine xv_puta (q := 158) rfl dX7_init_155 f_X7_75 (fun _ => ⟨rfl, rfl⟩) rfl ?_
  refine xv_aload_n (q := 159) rfl dX7_init_158 rfl rfl ?_
  refine xv_sipush (v := nI 160) (q := 162) rfl dX7_init_159 rfl ?_
  refine xv_newi (N := 160) (kc' := 0) (ks' := 0) (q := 164) rfl dX7_init_162 rfl (by omega) ac_int (by omega) (by omega) ?_
  refine xv_puta (q := 167) rfl dX7_init_164 f_X7_78 (fun _ => ⟨rfl, rfl⟩) rfl ?_
  refine xv_aload_n (q := 168) rfl dX7_init_167 rfl rfl ?_
  refine xv_iconst (v := nI 0) (q := 169) rfl dX7_init_168 rfl ?_
  refine xv_bipush (v := nI 115) (q := 171) rfl dX7_init_169 rfl ?_
  refine xv_bipush (v := nI 116) (q := 173) rfl dX7_init_171 rfl ?_
  refine xv_bipush (v := nI 101) (q := 175) rfl dX7_init_173 rfl ?_
  refine xv_bipush (v := nI 112) (q := 177) rfl dX7_init_175 rfl ?_
  refine xv_bipush (v := nI 115) (q := 179) rfl dX7_init_177 rfl ?_
  refine xv_bipush (v := nI 32) (q := 181) rfl dX7_init_179 rfl ?_
  refine xv_bipush (v := nI 53) (q := 183) rfl dX7_init_181 rfl ?_
  refine xv_bipush (v := nI 32) (q := 185) rfl dX7_init_183 rfl ?_
  refine xv_cV9 (z := mX7_spell) (q := 188) rfl dX7_init_185 l_X7_81 gX7_spell rfl rfl rfl rfl (m_spell (d := d) rfl rfl rfl (at_ := 0) (by decide) (nI 115) (nI 116) (nI 101) (nI 112) (nI 115) (nI 32) (nI 53) (nI 32)) (by omega) ?_
  refine xv_aload_n (q := 189) rfl dX7_init_188 rfl rfl ?_
  refine xv_bipush (v := nI 8) (q := 191) rfl dX7_init_189 rfl ?_
  refine xv_bipush (v := nI 59) (q := 193) rfl dX7_init_191 rfl ?_
  refine xv_bipush (v := nI 32) (q := 195) rfl dX7_init_193 rfl ?_
  refine xv_bipush (v := nI 108) (q := 197) rfl dX7_init_195 rfl ?_
  refine xv_bipush (v := nI 97) (q := 199) rfl dX7_init_197 rfl ?_
  refine xv_bipush (v := nI 116) (q := 201) rfl dX7_init_199 rfl ?_
  refine xv_bipush (v := nI 101) (q := 203) rfl dX7_init_201 rfl ?_
  refine xv_bipush (v := nI 32) (q := 205) rfl dX7_init_203 rfl ?_
  refine xv_bipush (v := nI 49) (q := 207) rfl dX7_init_205 rfl ?_
  refine xv_cV9 (z := mX7_spell) (q := 210) rfl dX7_init_207 l_X7_81 gX7_spell rfl rfl rfl rfl (m_spell (d := d) rfl rfl rfl (at_ := 8) (by decide) (nI 59) (nI 32) (nI 108) (nI 97) (nI 116) (nI 101) (nI 32) (nI 49)) (by omega) ?_
  refine xv_aload_n (q := 211) rfl dX7_init_210 rfl rfl ?_
  refine xv_bipush (v := nI 16) (q := 213) rfl dX7_init_211 rfl ?_
  refine xv_bipush (v := nI 32) (q := 215) rfl dX7_init_213 rfl ?_
  refine xv_bipush (v := nI 59) (q := 217) rfl dX7_init_215 rfl ?_
  refine xv_bipush (v := nI 32) (q := 219) rfl dX7_init_217 rfl ?_
  refine xv_bipush (v := nI 109) (q := 221) rfl dX7_init_219 rfl ?_
  refine xv_bipush (v := nI 111) (q := 223) rfl dX7_init_221 rfl ?_
  refine xv_bipush (v := nI 118) (q := 225) rfl dX7_init_223 rfl ?_
  refine xv_bipush (v := nI 101) (q := 227) rfl dX7_init_225 rfl ?_
  refine xv_bipush (v := nI 115) (q := 229) rfl dX7_init_227 rfl ?_
  refine xv_cV9 (z := mX7_spell) (q := 232) rfl dX7_init_229 l_X7_81 gX7_spell rfl rfl rfl rfl (m_spell (d := d) rfl rfl rfl (at_ := 16) (by decide) (nI 32) (nI 59) (nI 32) (nI 109) (nI 111) (nI 118) (nI 101) (nI 115)) (by omega) ?_
  refine xv_aload_n (q := 233) rfl dX7_init_232 rfl rfl ?_
  refine xv_bipush (v := nI 24) (q := 235) rfl dX7_init_233 rfl ?_
  refine xv_bipush (v := nI 32) (q := 237) rfl dX7_init_235 rfl ?_
  refine xv_bipush (v := nI 51) (q := 239) rfl dX7_init_237 rfl ?_
  refine xv_bipush (v := nI 32) (q := 241) rfl dX7_init_239 rfl ?_
  refine xv_bipush (v := nI 59) (q := 243) rfl dX7_init_241 rfl ?_
  refine xv_bipush (v := nI 32) (q := 245) rfl dX7_init_243 rfl ?_
  refine xv_bipush (v := nI 32) (q := 247) rfl dX7_init_245 rfl ?_
  refine xv_bipush (v := nI 32) (q := 249) rfl dX7_init_247 rfl ?_
  refine xv_bipush (v := nI 32) (q := 251) rfl dX7_init_249 rfl ?_
  refine xv_cV9 (z := mX7_spell) (q := 254) rfl dX7_init_251 l_X7_81 gX7_spell rfl rfl rfl rfl (m_spell (d := d) rfl rfl rfl (at_ := 24) (by decide) (nI 32) (nI 51) (nI 32) (nI 59) (nI 32) (nI 32) (nI 32) (nI 32)) (by omega) ?_
  refine xv_aload_n (q := 255) rfl dX7_init_254 rfl rfl ?_
  refine xv_geta (q := 258) rfl dX7_init_255 f_X7_17 rfl rfl ?_
  refine xv_iconst (v := nI 0) (q := 259) rfl dX7_init_258 rfl ?_
  refine xv_bipush (v := nI 32) (q := 261) rfl dX7_init_259 rfl ?_
  refine xv_iast (q := 262) rfl dX7_init_261 rfl rfl (show 0 < 6 by decide) (by decide) ?_
  refine xv_aload_n (q := 263) rfl dX7_init_262 rfl rfl ?_
  refine xv_iconst (v := nI 1) (q := 264) rfl dX7_init_263 rfl ?_
  refine xv_puti (q := 267) rfl dX7_init_264 f_X7_85 (fun h => by cases h) rfl ?_
  refine xv_vret dX7_init_267 rfl ?_
  exact xq_of rfl rfl rfl
def RWx : List (Nat × Nat × Nat) := [(0, 0, 1), (0, 1, 9), (0, 3, 17), (0, 4, 21), (0, 6, 22), (0, 7, 23), (0, 8, 40), (1, 0, 2), (1, 1, 3), (1, 2, 4), (1, 3, 5), (1, 4, 6), (1, 5, 7), (1, 6, 8), (9, 0, 10), (9, 1, 11), (9, 2, 12), (9, 3, 13), (9, 4, 14), (9, 5, 15), (9, 6, 16), (17, 0, 18), (17, 6, 19), (17, 8, 20), (22, 0, 53), (22, 1, 55), (22, 2, 57), (22, 3, 59), (23, 0, 24), (23, 2, 32), (23, 3, 33), (23, 4, 34), (23, 5, 35), (23, 6, 36), (23, 7, 37), (23, 8, 38), (23, 9, 39), (24, 0, 25), (24, 1, 26), (24, 2, 27), (24, 3, 28), (24, 4, 29), (24, 5, 30), (24, 6, 31), (40, 0, 41), (40, 3, 49), (41, 0, 42), (41, 1, 43), (41, 2, 44), (41, 3, 45), (41, 4, 46), (41, 5, 47), (41, 6, 48), (50, 0, 51), (50, 1, 52), (53, 0, 54), (55, 0, 56), (57, 0, 58), (59, 0, 60), (61, 1, 62), (61, 2, 63), (61, 5, 64), (61, 8, 65), (61, 9, 66), (61, 10, 67), (61, 11, 68), (61, 12, 69), (61, 13, 70), (61, 14, 71), (61, 31, 72), (61, 32, 73), (61, 33, 74), (61, 37, 75), (61, 38, 76), (61, 41, 77), (61, 45, 78), (61, 46, 79), (61, 47, 80), (61, 48, 81)]
set_option maxRecDepth 20000 in
theorem rw_in : ∀ k j a, RW k j = some a → (k, j, a) ∈ RWx := by
  intro k j a h
  unfold RW at h
  split at h <;> first | (cases h; decide) | cases h
set_option maxRecDepth 20000 in
theorem rb_all : RWx.all (fun q => RB q.1 q.2.1 == some q.2.2) = true := by decide +kernel
theorem xg_start : XG SHL RB := ⟨fun _ _ h => h, fun k j a h => by
  have := List.all_eq_true.mp rb_all _ (rw_in k j a h)
  exact eq_of_beq this⟩
/-- the bytes of Text 0 -/
def tp0 (i : Nat) : Nat := ([115, 116, 101, 112, 115, 32, 53, 32, 59, 32, 108, 97, 116, 101, 32, 49, 32, 59, 32, 109, 111, 118, 101, 115, 32, 51, 32, 59, 32, 32, 32, 32] : List Nat).getD i 0
def tx0 : TXS := fun _ => (32, tp0)
theorem bnd_some {r : PR} {g : PR → Option PR} : (some r).bind g = g r := rfl
theorem pe_num {tp : Nat → Nat} {n p : Nat} (h : tok tp n p = 2) (z2 : tok tp n (nxt tp n p) = 59) : pe tp n p = (true, nxt tp n p, [nI (vlu tp n p)], fun _ => nI (vlu tp n p)) := by
  have z3 : ∀ lv, lv < 4 → ¬ lvo (tok tp n (nxt tp n p)) = lv := fun lv hl q => by rw [z2, show lvo 59 = 9 by decide] at q; omega
  have ze9 : ∀ f v, prs tp n (f + 1) 4 0 0 p [] v = some (true, nxt tp n p, [nI (vlu tp n p)], fun _ => nI (vlu tp n p)) := fun f v => by rw [prs_4, if_pos h]
  have ze8 : ∀ f v, prs tp n (f + 1 + 1) 0 3 0 p [] v = some (true, nxt tp n p, [nI (vlu tp n p)], fun _ => nI (vlu tp n p)) := fun f v => by rw [prs_0, if_neg (by decide), if_pos rfl, ze9]
  have ze7 : ∀ f v, prs tp n (f + 1 + 1 + 1) 1 3 0 p [] v = some (true, nxt tp n p, [nI (vlu tp n p)], fun _ => nI (vlu tp n p)) := fun f v => by
    rw [prs_1, ze8, bnd_some, if_neg (by intro q; cases q), prs_2, if_pos (z3 3 (by decide))]
  have ze6 : ∀ f v, prs tp n (f + 1 + 1 + 1 + 1) 0 2 0 p [] v = some (true, nxt tp n p, [nI (vlu tp n p)], fun _ => nI (vlu tp n p)) := fun f v => by rw [prs_0, if_neg (by decide), if_neg (by decide), ze7]
  have ze5 : ∀ f v, prs tp n (f + 1 + 1 + 1 + 1 + 1) 1 2 0 p [] v = some (true, nxt tp n p, [nI (vlu tp n p)], fun _ => nI (vlu tp n p)) := fun f v => by
    rw [prs_1, ze6, bnd_some, if_neg (by intro q; cases q), prs_2, if_pos (z3 2 (by decide))]
  have ze4 : ∀ f v, prs tp n (f + 1 + 1 + 1 + 1 + 1 + 1) 3 0 0 p [] v = some (true, nxt tp n p, [nI (vlu tp n p)], fun _ => nI (vlu tp n p)) := fun f v => by
    rw [prs_3, if_neg (by rw [h]; decide), ze5, bnd_some, if_neg (by intro q; cases q), if_neg (by show ¬ (tok tp n (nxt tp n p) = 60 ∨ tok tp n (nxt tp n p) = 61); rw [z2]; decide)]
  have ze3 : ∀ f v, prs tp n (f + 1 + 1 + 1 + 1 + 1 + 1 + 1) 0 1 0 p [] v = some (true, nxt tp n p, [nI (vlu tp n p)], fun _ => nI (vlu tp n p)) := fun f v => by rw [prs_0, if_pos rfl, ze4]
  have ze2 : ∀ f v, prs tp n (f + 1 + 1 + 1 + 1 + 1 + 1 + 1 + 1) 1 1 0 p [] v = some (true, nxt tp n p, [nI (vlu tp n p)], fun _ => nI (vlu tp n p)) := fun f v => by
    rw [prs_1, ze3, bnd_some, if_neg (by intro q; cases q), prs_2, if_pos (z3 1 (by decide))]
  have ze1 : ∀ f v, prs tp n (f + 1 + 1 + 1 + 1 + 1 + 1 + 1 + 1 + 1) 0 0 0 p [] v = some (true, nxt tp n p, [nI (vlu tp n p)], fun _ => nI (vlu tp n p)) := fun f v => by rw [prs_0, if_neg (by decide), if_neg (by decide), ze2]
  have ze0 : ∀ f v, prs tp n (f + 1 + 1 + 1 + 1 + 1 + 1 + 1 + 1 + 1 + 1) 1 0 0 p [] v = some (true, nxt tp n p, [nI (vlu tp n p)], fun _ => nI (vlu tp n p)) := fun f v => by
    rw [prs_1, ze1, bnd_some, if_neg (by intro q; cases q), prs_2, if_pos (z3 0 (by decide))]
  have key := ze0 1790 (fun _ => 0)
  unfold pe
  rw [show (1800 : Nat) = 1790 + 1 + 1 + 1 + 1 + 1 + 1 + 1 + 1 + 1 + 1 from rfl, key]
  rfl

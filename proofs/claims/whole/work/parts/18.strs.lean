section STRS
variable {E : XE} {d : Nat} {sh : XSh} {I : XI} {R : XRf} {L : XL} {n dd u : Nat} {c : CR}
theorem c_coder {i : Nat} (hi : i < 12) : XC E mJ0_coder_7d493 d 0 0 [sw i] sh I R L (xq (some (.int (nI 0))) sh I R L) := by
  refine XC.of (by decide) rfl rfl ?_
  refine xv_getsC (q := 3) rfl dJ0_coder_7d493_0 fs_compact ?_
  refine xv_if_eq (q := 6) (t := 13) rfl rfl dJ0_coder_7d493_3 (fun h3 => ?_) (fun h3 => ?_)
  · exact absurd h3 (by decide)
  · refine xv_aloadF_n (q := 7) rfl dJ0_coder_7d493_6 rfl rfl ?_
    refine xv_scod (i := i) (q := 10) hi rfl dJ0_coder_7d493_7 fs_coder ?_
    refine xv_goto (t := 14) rfl dJ0_coder_7d493_10 ?_
    refine xv_zret (ty := .byte) dJ0_coder_7d493_14 rfl rfl ?_
    exact xq_rfl
theorem c_isLatin1 {i : Nat} (hi : i < 12) : XC E mJ0_isLatin1_aae02 d 0 0 [sw i] sh I R L (xq (some (.int (nI 1))) sh I R L) := by
  refine XC.of (by decide) rfl rfl ?_
  refine xv_getsC (q := 3) rfl dJ0_isLatin1_aae02_0 fs_compact ?_
  refine xv_if_eq (q := 6) (t := 17) rfl rfl dJ0_isLatin1_aae02_3 (fun h3 => ?_) (fun h3 => ?_)
  · exact absurd h3 (by decide)
  · refine xv_aloadF_n (q := 7) rfl dJ0_isLatin1_aae02_6 rfl rfl ?_
    refine xv_scod (i := i) (q := 10) hi rfl dJ0_isLatin1_aae02_7 fs_coder ?_
    refine xv_if_ne (q := 13) (t := 17) rfl rfl dJ0_isLatin1_aae02_10 (fun h10 => ?_) (fun h10 => ?_)
    · exact absurd rfl h10
    · refine xv_iconst (v := nI 1) (q := 14) rfl dJ0_isLatin1_aae02_13 rfl ?_
      refine xv_goto (t := 18) rfl dJ0_isLatin1_aae02_14 ?_
      refine xv_zret (ty := .boolean) dJ0_isLatin1_aae02_18 rfl rfl ?_
      exact xq_rfl
theorem c_strlen {i : Nat} (hi : i < 12) : XC E mJ0_length_8abf5 (d + 1) 0 0 [sw i] sh I R L (xq (some (.int (nI (xwl.getD i 0)))) sh I R L) := by
  refine XC.of (by decide) rfl rfl ?_
  refine xv_aloadF_n (q := 1) rfl dJ0_length_8abf5_0 rfl rfl ?_
  refine xv_sval (i := i) (q := 4) hi rfl dJ0_length_8abf5_1 fs_value ?_
  refine xv_slen (i := i) (q := 5) hi rfl dJ0_length_8abf5_4 ?_
  refine xv_aloadF_n (q := 6) rfl dJ0_length_8abf5_5 rfl rfl ?_
  refine xv_cVS0 (i := i) (z := mJ0_coder_7d493) (q := 9) hi rfl dJ0_length_8abf5_6 l_J0_335 gJ0_coder_7d493 rfl rfl (c_coder (d := d) hi) (by omega) ?_
  refine xv_ishr (q := 10) rfl dJ0_length_8abf5_9 ?_
  refine xv_iret dJ0_length_8abf5_10 rfl ?_
  exact ⟨by rw [show nI (xwl.getD i 0) >>> (nI 0 &&& 31) = nI (xwl.getD i 0) from sb_shr0 _], rfl, rfl, rfl, rfl⟩
theorem c_pre {j k : Nat} (hj : j < k) (hk : k < 2 ^ 31) (v : Value) (hv : v = .null ∨ ∃ t, v = .retAddr t) : XC E mJ3_checkIndex_8e157 d 0 0 [.int (nI j), .int (nI k), v] sh I R L (xq (some (.int (nI j))) sh I R L) := by
  refine XC.of (ls := [some (.int (nI j)), some (.int (nI k)), some v]) (by decide) (by rcases hv with rfl | ⟨t, rfl⟩ <;> rfl) (by rcases hv with rfl | ⟨t, rfl⟩ <;> rfl) ?_
  refine xv_iload_n (q := 1) rfl dJ3_checkIndex_8e157_0 rfl rfl ?_
  refine xv_if_lt (q := 4) (t := 9) rfl rfl dJ3_checkIndex_8e157_1 (fun h1 => ?_) (fun h1 => ?_)
  · exact absurd h1 (nI_pos (by omega))
  · refine xv_iload_n (q := 5) rfl dJ3_checkIndex_8e157_4 rfl rfl ?_
    refine xv_iload_n (q := 6) rfl dJ3_checkIndex_8e157_5 rfl rfl ?_
    refine xv_icmp_lt (q := 9) (t := 16) rfl rfl dJ3_checkIndex_8e157_6 (fun h6 => ?_) (fun h6 => ?_)
    · refine xv_iload_n (q := 17) rfl dJ3_checkIndex_8e157_16 rfl rfl ?_
      refine xv_iret dJ3_checkIndex_8e157_17 rfl ?_
      exact xq_rfl
    · exact absurd (nI_lt hj hk) h6
theorem c_chk {j k : Nat} (hj : j < k) (hk : k < 2 ^ 31) : XC E mJ0_checkIndex_df160 (d + 1) 0 0 [.int (nI j), .int (nI k)] sh I R L (xq none sh I R L) := by
  refine XC.of (by decide) rfl rfl ?_
  refine xv_iload_n (q := 1) rfl dJ0_checkIndex_df160_0 rfl rfl ?_
  refine xv_iload_n (q := 2) rfl dJ0_checkIndex_df160_1 rfl rfl ?_
  refine xv_getsS (q := 5) rfl dJ0_checkIndex_df160_2 fs_sio (fun v hv => ?_)
  refine xv_cS3 (z := mJ3_checkIndex_8e157) (q := 8) rfl dJ0_checkIndex_df160_5 l_J0_1059 gJ3_checkIndex_8e157 rfl (c_pre (d := d) hj hk v hv) (by omega) ?_
  refine xv_pop (q := 9) rfl dJ0_checkIndex_df160_8 rfl ?_
  refine xv_vret dJ0_checkIndex_df160_9 rfl ?_
  exact xq_rfl
theorem c_lchar {i j : Nat} (hi : i < 12) (hj : j < xwl.getD i 0) : XC E mJ1_charAt_3b067 (d + 2) 0 0 [sb i, .int (nI j)] sh I R L (xq (some (.int ((xwb.getD i []).getD j 0))) sh I R L) := by
  have hw6 : xwl.getD i 0 ≤ 6 := (by decide : ∀ i, i < 12 → xwl.getD i 0 ≤ 6) i hi
  have hch : (((xwb.getD i []).getD j 0 &&& nI 255).toUInt32 % 65536).toInt32 = (xwb.getD i []).getD j 0 := (by decide +kernel : ∀ i, i < 12 → ∀ j, j < 7 → (((xwb.getD i []).getD j 0 &&& nI 255).toUInt32 % 65536).toInt32 = (xwb.getD i []).getD j 0) i hi j (by omega)
  have hnr : narrow .char (.int ((xwb.getD i []).getD j 0)) = .int ((xwb.getD i []).getD j 0) := (by decide +kernel : ∀ i, i < 12 → ∀ j, j < 7 → narrow .char (.int ((xwb.getD i []).getD j 0)) = .int ((xwb.getD i []).getD j 0)) i hi j (by omega)
  refine XC.of (by decide) rfl rfl ?_
  refine xv_iload_n (q := 1) rfl dJ1_charAt_3b067_0 rfl rfl ?_
  refine xv_aloadF_n (q := 2) rfl dJ1_charAt_3b067_1 rfl rfl ?_
  refine xv_slen (i := i) (q := 3) hi rfl dJ1_charAt_3b067_2 ?_
  refine xv_cS2 (z := mJ0_checkIndex_df160) (q := 6) rfl dJ1_charAt_3b067_3 l_J1_9 gJ0_checkIndex_df160 rfl (c_chk (d := d) hj (by omega)) (by omega) ?_
  refine xv_aloadF_n (q := 7) rfl dJ1_charAt_3b067_6 rfl rfl ?_
  refine xv_iload_n (q := 8) rfl dJ1_charAt_3b067_7 rfl rfl ?_
  refine xv_sbld (i := i) (j := j) (q := 9) hi rfl dJ1_charAt_3b067_8 rfl hj ?_
  refine xv_sipush (v := nI 255) (q := 12) rfl dJ1_charAt_3b067_9 rfl ?_
  refine xv_iand (q := 13) rfl dJ1_charAt_3b067_12 ?_
  refine xv_i2c (q := 14) rfl dJ1_charAt_3b067_13 ?_
  refine xv_zret (ty := .char) dJ1_charAt_3b067_14 rfl (by rw [hch]; exact hnr) ?_
  exact ⟨by rw [hch], rfl, rfl, rfl, rfl⟩
theorem c_charAt {i j : Nat} (hi : i < 12) (hj : j < xwl.getD i 0) : XC E mJ0_charAt_5068e (d + 3) 0 0 [sw i, .int (nI j)] sh I R L (xq (some (.int ((xwb.getD i []).getD j 0))) sh I R L) := by
  have hw6 : xwl.getD i 0 ≤ 6 := (by decide : ∀ i, i < 12 → xwl.getD i 0 ≤ 6) i hi
  have hnr : narrow .char (.int ((xwb.getD i []).getD j 0)) = .int ((xwb.getD i []).getD j 0) := (by decide +kernel : ∀ i, i < 12 → ∀ j, j < 7 → narrow .char (.int ((xwb.getD i []).getD j 0)) = .int ((xwb.getD i []).getD j 0)) i hi j (by omega)
  refine XC.of (by decide) rfl rfl ?_
  refine xv_aloadF_n (q := 1) rfl dJ0_charAt_5068e_0 rfl rfl ?_
  refine xv_cVS0 (i := i) (z := mJ0_isLatin1_aae02) (q := 4) hi rfl dJ0_charAt_5068e_1 l_J0_492 gJ0_isLatin1_aae02 rfl rfl (c_isLatin1 (d := d) hi) (by omega) ?_
  refine xv_if_eq (q := 7) (t := 16) rfl rfl dJ0_charAt_5068e_4 (fun h4 => ?_) (fun h4 => ?_)
  · exact absurd h4 (by decide)
  · refine xv_aloadF_n (q := 8) rfl dJ0_charAt_5068e_7 rfl rfl ?_
    refine xv_sval (i := i) (q := 11) hi rfl dJ0_charAt_5068e_8 fs_value ?_
    refine xv_iload_n (q := 12) rfl dJ0_charAt_5068e_11 rfl rfl ?_
    refine xv_cS2 (z := mJ1_charAt_3b067) (q := 15) rfl dJ0_charAt_5068e_12 l_J0_495 gJ1_charAt_3b067 rfl (c_lchar (d := d) hi hj) (by omega) ?_
    refine xv_zret (ty := .char) dJ0_charAt_5068e_15 rfl hnr ?_
    exact xq_rfl
theorem i12 {k : Nat} (h : k < 12) : k = 0 ∨ k = 1 ∨ k = 2 ∨ k = 3 ∨ k = 4 ∨ k = 5 ∨ k = 6 ∨ k = 7 ∨ k = 8 ∨ k = 9 ∨ k = 10 ∨ k = 11 := by omega
theorem c_knownWord {k : Nat} (hk : k < 12) : XC E mX1_knownWord d 0 0 [.int (nI k)] sh I R L (xq (some (sw k)) sh I R L) := by
  refine XC.of (by decide) rfl rfl ?_
  rcases i12 hk with rfl | rfl | rfl | rfl | rfl | rfl | rfl | rfl | rfl | rfl | rfl | rfl
  · refine xv_iload_n (q := 1) rfl dX1_knownWord_0 rfl rfl ?_
    refine xv_tableIn (off := 59) (t := 60) dX1_knownWord_1 (by decide) (by decide) rfl rfl ?_
    refine xv_ldcS (i := 0) (q := 62) (by decide) rfl rfl dX1_knownWord_60 ?_
    refine xv_aretF dX1_knownWord_62 rfl (by first | exact Or.inl ⟨_, rfl⟩ | exact Or.inr ⟨_, rfl⟩) ?_
    exact xq_rfl
  · refine xv_iload_n (q := 1) rfl dX1_knownWord_0 rfl rfl ?_
    refine xv_tableIn (off := 62) (t := 63) dX1_knownWord_1 (by decide) (by decide) rfl rfl ?_
    refine xv_ldcS (i := 1) (q := 65) (by decide) rfl rfl dX1_knownWord_63 ?_
    refine xv_aretF dX1_knownWord_65 rfl (by first | exact Or.inl ⟨_, rfl⟩ | exact Or.inr ⟨_, rfl⟩) ?_
    exact xq_rfl
  · refine xv_iload_n (q := 1) rfl dX1_knownWord_0 rfl rfl ?_
    refine xv_tableIn (off := 65) (t := 66) dX1_knownWord_1 (by decide) (by decide) rfl rfl ?_
    refine xv_ldcS (i := 2) (q := 68) (by decide) rfl rfl dX1_knownWord_66 ?_
    refine xv_aretF dX1_knownWord_68 rfl (by first | exact Or.inl ⟨_, rfl⟩ | exact Or.inr ⟨_, rfl⟩) ?_
    exact xq_rfl
  · refine xv_iload_n (q := 1) rfl dX1_knownWord_0 rfl rfl ?_
    refine xv_tableIn (off := 68) (t := 69) dX1_knownWord_1 (by decide) (by decide) rfl rfl ?_
    refine xv_ldcS (i := 3) (q := 71) (by decide) rfl rfl dX1_knownWord_69 ?_
    refine xv_aretF dX1_knownWord_71 rfl (by first | exact Or.inl ⟨_, rfl⟩ | exact Or.inr ⟨_, rfl⟩) ?_
    exact xq_rfl
  · refine xv_iload_n (q := 1) rfl dX1_knownWord_0 rfl rfl ?_
    refine xv_tableIn (off := 71) (t := 72) dX1_knownWord_1 (by decide) (by decide) rfl rfl ?_
    refine xv_ldcS (i := 4) (q := 74) (by decide) rfl rfl dX1_knownWord_72 ?_
    refine xv_aretF dX1_knownWord_74 rfl (by first | exact Or.inl ⟨_, rfl⟩ | exact Or.inr ⟨_, rfl⟩) ?_
    exact xq_rfl
  · refine xv_iload_n (q := 1) rfl dX1_knownWord_0 rfl rfl ?_
    refine xv_tableIn (off := 74) (t := 75) dX1_knownWord_1 (by decide) (by decide) rfl rfl ?_
    refine xv_ldcS (i := 5) (q := 77) (by decide) rfl rfl dX1_knownWord_75 ?_
    refine xv_aretF dX1_knownWord_77 rfl (by first | exact Or.inl ⟨_, rfl⟩ | exact Or.inr ⟨_, rfl⟩) ?_
    exact xq_rfl
  · refine xv_iload_n (q := 1) rfl dX1_knownWord_0 rfl rfl ?_
    refine xv_tableIn (off := 77) (t := 78) dX1_knownWord_1 (by decide) (by decide) rfl rfl ?_
    refine xv_ldcS (i := 6) (q := 80) (by decide) rfl rfl dX1_knownWord_78 ?_
    refine xv_aretF dX1_knownWord_80 rfl (by first | exact Or.inl ⟨_, rfl⟩ | exact Or.inr ⟨_, rfl⟩) ?_
    exact xq_rfl
  · refine xv_iload_n (q := 1) rfl dX1_knownWord_0 rfl rfl ?_
    refine xv_tableIn (off := 80) (t := 81) dX1_knownWord_1 (by decide) (by decide) rfl rfl ?_
    refine xv_ldcS (i := 7) (q := 83) (by decide) rfl rfl dX1_knownWord_81 ?_
    refine xv_aretF dX1_knownWord_83 rfl (by first | exact Or.inl ⟨_, rfl⟩ | exact Or.inr ⟨_, rfl⟩) ?_
    exact xq_rfl
  · refine xv_iload_n (q := 1) rfl dX1_knownWord_0 rfl rfl ?_
    refine xv_tableIn (off := 83) (t := 84) dX1_knownWord_1 (by decide) (by decide) rfl rfl ?_
    refine xv_ldcS (i := 8) (q := 86) (by decide) rfl rfl dX1_knownWord_84 ?_
    refine xv_aretF dX1_knownWord_86 rfl (by first | exact Or.inl ⟨_, rfl⟩ | exact Or.inr ⟨_, rfl⟩) ?_
    exact xq_rfl
  · refine xv_iload_n (q := 1) rfl dX1_knownWord_0 rfl rfl ?_
    refine xv_tableIn (off := 86) (t := 87) dX1_knownWord_1 (by decide) (by decide) rfl rfl ?_
    refine xv_ldcS (i := 9) (q := 89) (by decide) rfl rfl dX1_knownWord_87 ?_
    refine xv_aretF dX1_knownWord_89 rfl (by first | exact Or.inl ⟨_, rfl⟩ | exact Or.inr ⟨_, rfl⟩) ?_
    exact xq_rfl
  · refine xv_iload_n (q := 1) rfl dX1_knownWord_0 rfl rfl ?_
    refine xv_tableIn (off := 89) (t := 90) dX1_knownWord_1 (by decide) (by decide) rfl rfl ?_
    refine xv_ldcS (i := 10) (q := 92) (by decide) rfl rfl dX1_knownWord_90 ?_
    refine xv_aretF dX1_knownWord_92 rfl (by first | exact Or.inl ⟨_, rfl⟩ | exact Or.inr ⟨_, rfl⟩) ?_
    exact xq_rfl
  · refine xv_iload_n (q := 1) rfl dX1_knownWord_0 rfl rfl ?_
    refine xv_tableOut (t := 93) dX1_knownWord_1 (by decide) rfl ?_
    refine xv_ldcS (i := 11) (q := 95) (by decide) rfl rfl dX1_knownWord_93 ?_
    refine xv_aretF dX1_knownWord_95 rfl (by first | exact Or.inl ⟨_, rfl⟩ | exact Or.inr ⟨_, rfl⟩) ?_
    exact xq_rfl
end STRS

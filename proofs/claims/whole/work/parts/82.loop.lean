/-! the law's loop, from its entry -/
theorem and31 (x : Int32) : ∃ j, j < 32 ∧ x &&& nI 31 = nI j := by
  refine ⟨(x.toBitVec &&& 31#32).toNat, ?_, ?_⟩
  · rw [BitVec.toNat_and]
    exact Nat.and_lt_two_pow _ (n := 5) (by decide)
  · apply Int32.toBitVec_inj.1
    show x.toBitVec &&& 31#32 = BitVec.ofNat 32 (x.toBitVec &&& 31#32).toNat
    simp
theorem six_sub {i N : Nat} (hi : i ≤ N) (hN : N ≤ 3072) : nI N - nI 6 < nI i ↔ ¬ i + 6 ≤ N := by
  have e : (nI N - nI 6).toInt = (N : Int) - 6 := by
    rw [Int32.toInt_sub, nI_toInt (by omega), nI_toInt (by omega)]
    exact Int.bmod_eq_of_le (by omega) (by omega)
  rw [Int32.lt_iff_toInt_lt, e, nI_toInt (by omega)]
  omega
section LAWLOOP
variable {E : XE} {qb qN : Nat} {qx : Nat → Int32}
set_option maxHeartbeats 1000000 in
theorem law_loop (hN : qN ≤ 3072) : ∀ (k i : Nat) (sh : XSh) (I : XI) (R : XRf) (L : XL), i ≤ qN → qN < i + 6 * k → JB sh I R → XW E qb qN qx (3 * k) (170 * k) 18 (LLs qb i) [] sh I R L := by
  intro k
  induction k with
  | zero => intro i sh I R L zh1 zh2; exact absurd zh2 (by omega)
  | succ k ih =>
    intro i sh I R L zh1 zh2 hJ
    refine xw_iload_n (q := 19) rfl dL_law_18 rfl rfl ?_
    refine xw_sload (q := 20) rfl dL_law_19 rfl rfl ?_
    refine xw_slen (q := 21) rfl dL_law_20 ?_
    refine xw_bipush (v := nI 6) (q := 23) rfl dL_law_21 rfl ?_
    refine xw_isub (q := 24) rfl dL_law_23 ?_
    refine xw_icmp_gt (q := 27) (t := 1032) rfl rfl dL_law_24 (fun h24 => ?_) (fun h24 => ?_)
    · refine xw_iconst (v := nI 1) (q := 1033) rfl dL_law_1032 rfl ?_
      exact xw_ret dL_law_1033
    · have hi : i + 6 ≤ qN := Classical.byContradiction (fun z => h24 ((six_sub zh1 hN).mpr z))
      have KK : ∀ (sh : XSh) (I : XI) (R : XRf) (L : XL), JB sh I R → XW E qb qN qx (3 * k) (170 * k) 1026 (LLs qb i) [] sh I R L := by
        intro sh I R L hJ
        refine xw_iinc (q := 1029) (v := nI 6) rfl dL_law_1026 rfl rfl ?_
        refine xw_goto (t := 18) rfl dL_law_1029 ?_
        rw [nI_add]
        exact ih (i + 6) sh I R L hi (by omega) hJ
      refine xw_sload (q := 28) rfl dL_law_27 rfl rfl ?_
      refine xw_iload_n (q := 29) rfl dL_law_28 rfl rfl ?_
      refine xw_sald (j := i) (q := 30) rfl dL_law_29 rfl (by omega) hN ?_
      refine xw_bipush (v := nI 31) (q := 32) rfl dL_law_30 rfl ?_
      refine xw_iand (q := 33) rfl dL_law_32 ?_
      obtain ⟨j, zhj, ej⟩ := and31 (qx i)
      refine xw_as (w := nI j) ej ?_
      have ze3 : 3 * (k + 1) = 3 * k + 3 := rfl
      have ze4 : 170 * (k + 1) = 170 * k + 170 := rfl
      rw [ze3, ze4]
      rcases (show j = 0 ∨ j = 1 ∨ j = 2 ∨ j = 3 ∨ j = 4 ∨ j = 5 ∨ j = 6 ∨ j = 7 ∨ j = 8 ∨ j = 9 ∨ j = 10 ∨ j = 11 ∨ j = 12 ∨ j = 13 ∨ j = 14 ∨ j = 15 ∨ j = 16 ∨ j = 17 ∨ j = 18 ∨ j = 19 ∨ j = 20 ∨ j = 21 ∨ j = 22 ∨ j = 23 ∨ j = 24 ∨ j = 25 ∨ j = 26 ∨ j = 27 ∨ j = 28 ∨ j = 29 ∨ j = 30 ∨ j = 31 by omega) with rfl | rfl | rfl | rfl | rfl | rfl | rfl | rfl | rfl | rfl | rfl | rfl | rfl | rfl | rfl | rfl | rfl | rfl | rfl | rfl | rfl | rfl | rfl | rfl | rfl | rfl | rfl | rfl | rfl | rfl | rfl | rfl
      · exact xw_tableIn (off := 127) (t := 160) dL_law_33 (by decide) (by decide) rfl rfl (law_rider hN hi hJ KK)
      · exact xw_tableIn (off := 170) (t := 203) dL_law_33 (by decide) (by decide) rfl rfl (law_set hN hi hJ KK)
      · exact xw_tableIn (off := 213) (t := 246) dL_law_33 (by decide) (by decide) rfl rfl (law_told hN hi hJ KK)
      · exact xw_tableIn (off := 246) (t := 279) dL_law_33 (by decide) (by decide) rfl rfl (law_lets hN hi hJ KK)
      · exact xw_tableIn (off := 279) (t := 312) dL_law_33 (by decide) (by decide) rfl rfl (law_feed hN hi hJ KK)
      · exact xw_tableIn (off := 302) (t := 335) dL_law_33 (by decide) (by decide) rfl rfl (law_text hN hi hJ KK)
      · exact xw_tableIn (off := 315) (t := 348) dL_law_33 (by decide) (by decide) rfl rfl (law_force hN hi hJ KK)
      · exact xw_tableIn (off := 338) (t := 371) dL_law_33 (by decide) (by decide) rfl rfl (law_ride hN hi hJ KK)
      · exact xw_tableIn (off := 361) (t := 394) dL_law_33 (by decide) (by decide) rfl rfl (law_floor hN hi hJ KK)
      · exact xw_tableIn (off := 394) (t := 427) dL_law_33 (by decide) (by decide) rfl rfl (law_stand hN hi hJ KK)
      · exact xw_tableIn (off := 417) (t := 450) dL_law_33 (by decide) (by decide) rfl rfl (law_one hN hi hJ KK)
      · exact xw_tableIn (off := 450) (t := 483) dL_law_33 (by decide) (by decide) rfl rfl (law_change hN hi hJ KK)
      · exact xw_tableIn (off := 473) (t := 506) dL_law_33 (by decide) (by decide) rfl rfl (law_second hN hi hJ KK)
      · exact xw_tableIn (off := 496) (t := 529) dL_law_33 (by decide) (by decide) rfl rfl (law_stands hN hi hJ KK)
      · exact xw_tableIn (off := 509) (t := 542) dL_law_33 (by decide) (by decide) rfl rfl (law_mean hN hi hJ KK)
      · exact xw_tableIn (off := 543) (t := 576) dL_law_33 (by decide) (by decide) rfl rfl (law_landings hN hi hJ KK)
      · exact xw_tableIn (off := 566) (t := 599) dL_law_33 (by decide) (by decide) rfl rfl (law_seen hN hi hJ KK)
      · exact xw_tableIn (off := 609) (t := 642) dL_law_33 (by decide) (by decide) rfl rfl (law_film hN hi hJ KK)
      · exact xw_tableIn (off := 642) (t := 675) dL_law_33 (by decide) (by decide) rfl rfl (law_drawn hN hi hJ KK)
      · exact xw_tableIn (off := 665) (t := 698) dL_law_33 (by decide) (by decide) rfl rfl (law_chance hN hi hJ KK)
      · exact xw_tableIn (off := 709) (t := 742) dL_law_33 (by decide) (by decide) rfl rfl (law_image hN hi hJ KK)
      · exact xw_tableIn (off := 722) (t := 755) dL_law_33 (by decide) (by decide) rfl rfl (law_back hN hi hJ KK)
      · exact xw_tableIn (off := 735) (t := 768) dL_law_33 (by decide) (by decide) rfl rfl (law_count hN hi hJ KK)
      · exact xw_tableIn (off := 758) (t := 791) dL_law_33 (by decide) (by decide) rfl rfl (law_sheet hN hi hJ KK)
      · exact xw_tableIn (off := 801) (t := 834) dL_law_33 (by decide) (by decide) rfl rfl (law_cell hN hi hJ KK)
      · exact xw_tableIn (off := 844) (t := 877) dL_law_33 (by decide) (by decide) rfl rfl (law_copy hN hi hJ KK)
      · exact xw_tableIn (off := 907) (t := 940) dL_law_33 (by decide) (by decide) rfl rfl (law_riders hN hi hJ KK)
      · exact xw_tableIn (off := 960) (t := 993) dL_law_33 (by decide) (by decide) rfl rfl (law_taken hN hi hJ KK)
      · exact xw_tableOut (t := 1026) dL_law_33 (by decide) rfl (xw_less (by omega) (by omega) (KK _ _ _ _ hJ))
      · exact xw_tableOut (t := 1026) dL_law_33 (by decide) rfl (xw_less (by omega) (by omega) (KK _ _ _ _ hJ))
      · exact xw_tableOut (t := 1026) dL_law_33 (by decide) rfl (xw_less (by omega) (by omega) (KK _ _ _ _ hJ))
      · exact xw_tableOut (t := 1026) dL_law_33 (by decide) rfl (xw_less (by omega) (by omega) (KK _ _ _ _ hJ))
theorem jb_start : JB SHL IB RB := ⟨_, _, _, _, _, _, _, _, _, _, jc_start, jm_start, jw_start⟩
set_option maxRecDepth 20000 in
theorem law_entry (hN : qN ≤ 3072) : XW E qb qN qx 2000 100000 0 [some (.retAddr qb), none, none, none] [] [] I00 R00 L00 := by
  refine xw_less (kc' := 82 + 3 * 513) (ks' := 2990 + 170 * 513) (by decide) (by decide) ?_
  refine xw_new (t := 6) (kc' := 81 + 3 * 513) (ks' := 2981 + 170 * 513) (q := 3) rfl dL_law_0 (by decide) rfl inX6 tyX6_x nfX6 n_L_7 ia_X6 iz_X6 (by decide) (by decide) ?_
  refine xw_dup (q := 4) rfl dL_law_3 rfl ?_
  refine xw_callI (z := mX6_init) (kc' := 21 + 3 * 513) (ks' := 1732 + 170 * 513) (as := []) (q := 7) rfl dL_law_4 l_L_9 gX6_init rfl rfl (Nat.le_of_ble_eq_true rfl) (c_X6init (d := 0)) (by decide) (by decide) (by decide) ?_
  rintro _ _ _ _ _ ⟨rfl, rfl, rfl, rfl, rfl⟩
  refine xw_astore_n (q := 8) rfl dL_law_7 rfl rfl ?_
  refine xw_new (t := 7) (kc' := 20 + 3 * 513) (ks' := 1683 + 170 * 513) (q := 11) rfl dL_law_8 (by decide) rfl inX7 tyX7_x nfX7 n_L_10 ia_X7 iz_X7 (by decide) (by decide) ?_
  refine xw_dup (q := 12) rfl dL_law_11 rfl ?_
  refine xw_callI (z := mX7_init) (kc' := 3 * 513) (ks' := 170 * 513) (as := []) (q := 15) rfl dL_law_12 l_L_12 gX7_init rfl rfl (Nat.le_of_ble_eq_true rfl) (c_X7init (d := 0)) (by decide) (by decide) (by decide) ?_
  rintro _ _ _ _ _ ⟨rfl, rfl, rfl, rfl, rfl⟩
  refine xw_astore_n (q := 16) rfl dL_law_15 rfl rfl ?_
  refine xw_iconst (v := nI 0) (q := 17) rfl dL_law_16 rfl ?_
  refine xw_istore_n (q := 18) rfl dL_law_17 rfl rfl ?_
  refine xw_ls (ls' := LLs qb 0) rfl ?_
  exact law_loop hN 513 0 SHL IB RB L00 (Nat.zero_le _) (by omega) jb_start
end LAWLOOP

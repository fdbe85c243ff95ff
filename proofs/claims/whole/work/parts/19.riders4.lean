def undF : Nat → Int32 → Int32 → Bool
  | 0, _, _ => false
  | k + 1, t, b => if t < 0 ∨ nI 6 ≤ t then false else if t = b then true else undF k (xab.getD t.toNatClampNeg 0) b
def sp_taken (n : Nat) (c : CR) (x k : Int32) : Int32 := if k < 0 ∨ ¬ k < nI 6 then -2 else if isR n x = false then -11 else if undF 6 (nI (c 0 x.toNatClampNeg)) k = true then nI (c 1 x.toNatClampNeg) else -13
section RIDERS4
variable {E : XE} {d : Nat} {sh : XSh} {I : XI} {R : XRf} {L : XL} {n dd u : Nat} {c : CR}
theorem c_isUnder_loop (a b : Int32) : ∀ (k m : Nat) (t : Int32), m + k = 6 → undF 6 a b = undF k t b → XV E mX6_isUnder d 0 0 (xq (some (.int (bI (undF 6 a b)))) sh I R L) 0 0 4 [some (.int a), some (.int b), some (.int t), some (.int (nI m))] [] sh I R L := by
  intro k
  induction k with
  | zero =>
    intro m t h1 h2
    obtain rfl : m = 6 := by omega
    refine xv_iload_n (q := 5) rfl dX6_isUnder_4 rfl rfl ?_
    refine xv_bipush (v := nI 6) (q := 7) rfl dX6_isUnder_5 rfl ?_
    refine xv_icmp_ge (q := 10) (t := 39) rfl rfl dX6_isUnder_7 (fun h7 => ?_) (fun h7 => ?_)
    · refine xv_iconst (v := nI 0) (q := 40) rfl dX6_isUnder_39 rfl ?_
      refine xv_zret (ty := .boolean) dX6_isUnder_40 rfl rfl ?_
      exact ⟨by rw [h2]; rfl, rfl, rfl, rfl, rfl⟩
    · exact absurd (by decide) h7
  | succ k ih =>
    intro m t h1 h2
    refine xv_iload_n (q := 5) rfl dX6_isUnder_4 rfl rfl ?_
    refine xv_bipush (v := nI 6) (q := 7) rfl dX6_isUnder_5 rfl ?_
    refine xv_icmp_ge (q := 10) (t := 39) rfl rfl dX6_isUnder_7 (fun h7 => ?_) (fun h7 => ?_)
    · exact absurd (nIle h7 (by omega) (by omega)) (by omega)
    · refine xv_iload_n (q := 11) rfl dX6_isUnder_10 rfl rfl ?_
      refine xv_if_lt (q := 14) (t := 39) rfl rfl dX6_isUnder_11 (fun h11 => ?_) (fun h11 => ?_)
      · refine xv_iconst (v := nI 0) (q := 40) rfl dX6_isUnder_39 rfl ?_
        refine xv_zret (ty := .boolean) dX6_isUnder_40 rfl rfl ?_
        exact ⟨by rw [h2, show undF (k + 1) t b = false from if_pos (Or.inl h11)]; rfl, rfl, rfl, rfl, rfl⟩
      · refine xv_iload_n (q := 15) rfl dX6_isUnder_14 rfl rfl ?_
        refine xv_bipush (v := nI 6) (q := 17) rfl dX6_isUnder_15 rfl ?_
        refine xv_icmp_ge (q := 20) (t := 39) rfl rfl dX6_isUnder_17 (fun h17 => ?_) (fun h17 => ?_)
        · refine xv_iconst (v := nI 0) (q := 40) rfl dX6_isUnder_39 rfl ?_
          refine xv_zret (ty := .boolean) dX6_isUnder_40 rfl rfl ?_
          exact ⟨by rw [h2, show undF (k + 1) t b = false from if_pos (Or.inr h17)]; rfl, rfl, rfl, rfl, rfl⟩
        · refine xv_iload_n (q := 21) rfl dX6_isUnder_20 rfl rfl ?_
          refine xv_iload_n (q := 22) rfl dX6_isUnder_21 rfl rfl ?_
          refine xv_icmp_ne (q := 25) (t := 27) rfl rfl dX6_isUnder_22 (fun h22 => ?_) (fun h22 => ?_)
          · obtain ⟨z, hz, rfl⟩ := nI_of h11
            have hz6 := nInle h17 (by omega) hz
            refine xv_getsA (q := 30) rfl dX6_isUnder_27 fs_above ?_
            refine xv_iload_n (q := 31) rfl dX6_isUnder_30 rfl rfl ?_
            refine xv_abld (j := z) (q := 32) rfl dX6_isUnder_31 rfl hz6 ?_
            refine xv_istore_n (q := 33) rfl dX6_isUnder_32 rfl rfl ?_
            refine xv_iinc (q := 36) (v := nI 1) rfl dX6_isUnder_33 rfl rfl ?_
            refine xv_goto (t := 4) rfl dX6_isUnder_36 ?_
            rw [nI_add]
            exact ih (m + 1) _ (by omega) (by rw [h2, show undF (k + 1) (nI z) b = undF k (xab.getD (nI z).toNatClampNeg 0) b from (if_neg (fun q => q.elim h11 h17)).trans (if_neg h22), nI_clamp (n := z) (by omega)])
          · refine xv_iconst (v := nI 1) (q := 26) rfl dX6_isUnder_25 rfl ?_
            refine xv_zret (ty := .boolean) dX6_isUnder_26 rfl rfl ?_
            exact ⟨by rw [h2, show undF (k + 1) t b = true from (if_neg (fun q => q.elim h11 h17)).trans (if_pos h22)]; rfl, rfl, rfl, rfl, rfl⟩
theorem c_isUnder (a b : Int32) : XC E mX6_isUnder d 0 0 [.int a, .int b] sh I R L (xq (some (.int (bI (undF 6 a b)))) sh I R L) := by
  refine XC.of (by decide) rfl rfl ?_
  refine xv_iload_n (q := 1) rfl dX6_isUnder_0 rfl rfl ?_
  refine xv_istore_n (q := 2) rfl dX6_isUnder_1 rfl rfl ?_
  refine xv_iconst (v := nI 0) (q := 3) rfl dX6_isUnder_2 rfl ?_
  refine xv_istore_n (q := 4) rfl dX6_isUnder_3 rfl rfl ?_
  exact c_isUnder_loop a b 6 0 a rfl rfl
theorem x_taken (hg : XG sh R) (hK : KXc I n c dd u) (x k : Int32) : XC E mX6_taken (d + 1) 0 0 [.ref 0, .int x, .int k] sh I R L (xq (some (.int (sp_taken n c x k))) sh I R L) := by
  obtain ⟨hm, hn, hn5, hdd, hd2, hu, hwf⟩ := id hK
  have hcr := xg_crew hg (a := 1) (Or.inl rfl)
  refine XC.of (by decide) rfl rfl ?_
  refine xv_iload_n (q := 1) rfl dX6_taken_0 rfl rfl ?_
  refine xv_if_lt (q := 4) (t := 10) rfl rfl dX6_taken_1 (fun h1 => ?_) (fun h1 => ?_)
  · refine xv_bipush (v := (-2)) (q := 12) rfl dX6_taken_10 rfl ?_
    refine xv_iret dX6_taken_12 rfl ?_
    exact ⟨by rw [show sp_taken n c x k = -2 from if_pos (Or.inl h1)], rfl, rfl, rfl, rfl⟩
  · refine xv_iload_n (q := 5) rfl dX6_taken_4 rfl rfl ?_
    refine xv_bipush (v := nI 6) (q := 7) rfl dX6_taken_5 rfl ?_
    refine xv_icmp_lt (q := 10) (t := 13) rfl rfl dX6_taken_7 (fun h7 => ?_) (fun h7 => ?_)
    · have hq : ¬ (k < 0 ∨ ¬ k < nI 6) := fun q => q.elim h1 (fun q => q h7)
      refine xv_aload_n (q := 14) rfl dX6_taken_13 rfl rfl ?_
      refine xv_geto (q := 17) rfl dX6_taken_14 f_X6_10 (hg.1 _ _ rfl) (hg.2 _ _ _ rfl) ?_
      refine xv_iload_n (q := 18) rfl dX6_taken_17 rfl rfl ?_
      refine xv_cV1 (z := mX0_has) (q := 21) rfl dX6_taken_18 l_X6_68 gX0_has (hg.1 _ _ rfl) rfl rfl rfl (c_has' (d := d) hcr hn hn5 x) (by omega) ?_
      refine xv_if_ne (q := 24) (t := 27) rfl rfl dX6_taken_21 (fun h21 => ?_) (fun h21 => ?_)
      · have h21 := bIn h21
        obtain ⟨r, hr, rfl⟩ := isR_of hn5 h21
        have hq2 : ¬ isR n (nI r) = false := by rw [h21]; decide
        have er : (nI r).toNatClampNeg = r := nI_clamp (by omega)
        refine xv_aload_n (q := 28) rfl dX6_taken_27 rfl rfl ?_
        refine xv_geto (q := 31) rfl dX6_taken_28 f_X6_10 (hg.1 _ _ rfl) (hg.2 _ _ _ rfl) ?_
        refine xv_geta (q := 34) rfl dX6_taken_31 f_X6_101 (hg.1 _ _ rfl) (hg.2 _ _ _ rfl) ?_
        refine xv_iload_n (q := 35) rfl dX6_taken_34 rfl rfl ?_
        refine xv_iald (q := 36) rfl dX6_taken_35 (hg.1 _ _ rfl) rfl (by omega) (by decide) ?_
        rw [show I 2 r = nI (c 0 r) from hm 0 r (by decide) hr]
        refine xv_iload_n (q := 37) rfl dX6_taken_36 rfl rfl ?_
        refine xv_cS2 (z := mX6_isUnder) (q := 40) rfl dX6_taken_37 l_X6_265 gX6_isUnder rfl (c_isUnder (d := d) (nI (c 0 r)) k) (by omega) ?_
        refine xv_if_eq (q := 43) (t := 55) rfl rfl dX6_taken_40 (fun h40 => ?_) (fun h40 => ?_)
        · have h40 := bIz h40
          refine xv_bipush (v := (-13)) (q := 57) rfl dX6_taken_55 rfl ?_
          refine xv_iret dX6_taken_57 rfl ?_
          exact ⟨by rw [show sp_taken n c (nI r) k = -13 from (if_neg hq).trans ((if_neg hq2).trans (if_neg (by rw [er, h40]; decide)))], rfl, rfl, rfl, rfl⟩
        · have h40 := bIn h40
          refine xv_aload_n (q := 44) rfl dX6_taken_43 rfl rfl ?_
          refine xv_geto (q := 47) rfl dX6_taken_44 f_X6_10 (hg.1 _ _ rfl) (hg.2 _ _ _ rfl) ?_
          refine xv_geta (q := 50) rfl dX6_taken_47 f_X6_104 (hg.1 _ _ rfl) (hg.2 _ _ _ rfl) ?_
          refine xv_iload_n (q := 51) rfl dX6_taken_50 rfl rfl ?_
          refine xv_iald (q := 52) rfl dX6_taken_51 (hg.1 _ _ rfl) rfl (by omega) (by decide) ?_
          rw [show I 3 r = nI (c 1 r) from hm 1 r (by decide) hr]
          refine xv_goto (t := 57) rfl dX6_taken_52 ?_
          refine xv_iret dX6_taken_57 rfl ?_
          exact ⟨by rw [show sp_taken n c (nI r) k = nI (c 1 (nI r).toNatClampNeg) from (if_neg hq).trans ((if_neg hq2).trans (if_pos (by rw [er]; exact h40))), er], rfl, rfl, rfl, rfl⟩
      · have h21 := bIz h21
        refine xv_bipush (v := (-11)) (q := 26) rfl dX6_taken_24 rfl ?_
        refine xv_iret dX6_taken_26 rfl ?_
        exact ⟨by rw [show sp_taken n c x k = -11 from (if_neg hq).trans (if_pos h21)], rfl, rfl, rfl, rfl⟩
    · refine xv_bipush (v := (-2)) (q := 12) rfl dX6_taken_10 rfl ?_
      refine xv_iret dX6_taken_12 rfl ?_
      exact ⟨by rw [show sp_taken n c x k = -2 from if_pos (Or.inr h7)], rfl, rfl, rfl, rfl⟩
def sp_count (n dd tc tl u : Nat) (w : Int32) : Int32 := if w = nI 0 then nI n else if w = nI 1 then nI dd else if w = nI 2 then nI tc else if w = nI 3 then nI tl else if w = nI 4 then nI u else -2
theorem x_count (hg : XG sh R) (hK : KXc I n c dd u) {tc tl : Nat} (htc : I 0 5 = nI tc) (htl : I 17 1 = nI tl) (w : Int32) : XC E mX6_count d 0 0 [.ref 0, .int w] sh I R L (xq (some (.int (sp_count n dd tc tl u w))) sh I R L) := by
  obtain ⟨hm, hn, hn5, hdd, hd2, hu, hwf⟩ := id hK
  refine XC.of (by decide) rfl rfl ?_
  rcases pk_ix w (n := 5) (by decide) with z | z | ⟨k, hk, rfl⟩
  · refine xv_iload_n (q := 1) rfl dX6_count_0 rfl rfl ?_
    refine xv_tableOut (t := 73) dX6_count_1 (Or.inl (by have := Int32.lt_iff_toInt_lt.mp z; simpa using this)) rfl ?_
    refine xv_bipush (v := (-2)) (q := 75) rfl dX6_count_73 rfl ?_
    refine xv_iret dX6_count_75 rfl ?_
    exact ⟨by unfold sp_count; rw [if_neg, if_neg, if_neg, if_neg, if_neg] <;> (intro q; rw [q] at z; exact absurd z (by decide)), rfl, rfl, rfl, rfl⟩
  · refine xv_iload_n (q := 1) rfl dX6_count_0 rfl rfl ?_
    refine xv_tableOut (t := 73) dX6_count_1 (Or.inr (by have := Int32.le_iff_toInt_le.mp z; rw [nI_toInt (by decide)] at this; omega)) rfl ?_
    refine xv_bipush (v := (-2)) (q := 75) rfl dX6_count_73 rfl ?_
    refine xv_iret dX6_count_75 rfl ?_
    exact ⟨by unfold sp_count; rw [if_neg, if_neg, if_neg, if_neg, if_neg] <;> (intro q; rw [q] at z; exact absurd z (by decide)), rfl, rfl, rfl, rfl⟩
  · rcases (show k = 0 ∨ k = 1 ∨ k = 2 ∨ k = 3 ∨ k = 4 by omega) with rfl | rfl | rfl | rfl | rfl
    · refine xv_iload_n (q := 1) rfl dX6_count_0 rfl rfl ?_
      refine xv_tableIn (off := 35) (t := 36) dX6_count_1 (by decide) (by decide) rfl rfl ?_
      refine xv_aload_n (q := 37) rfl dX6_count_36 rfl rfl ?_
      refine xv_geto (q := 40) rfl dX6_count_37 f_X6_10 (hg.1 _ _ rfl) (hg.2 _ _ _ rfl) ?_
      refine xv_geti (q := 43) rfl dX6_count_40 f_X6_98 (hg.1 _ _ rfl) ?_
      refine xv_iret dX6_count_43 rfl ?_
      exact ⟨by rw [hn]; rfl, rfl, rfl, rfl, rfl⟩
    · refine xv_iload_n (q := 1) rfl dX6_count_0 rfl rfl ?_
      refine xv_tableIn (off := 43) (t := 44) dX6_count_1 (by decide) (by decide) rfl rfl ?_
      refine xv_aload_n (q := 45) rfl dX6_count_44 rfl rfl ?_
      refine xv_geto (q := 48) rfl dX6_count_45 f_X6_10 (hg.1 _ _ rfl) (hg.2 _ _ _ rfl) ?_
      refine xv_geti (q := 51) rfl dX6_count_48 f_X6_122 (hg.1 _ _ rfl) ?_
      refine xv_iret dX6_count_51 rfl ?_
      exact ⟨by rw [hdd]; rfl, rfl, rfl, rfl, rfl⟩
    · refine xv_iload_n (q := 1) rfl dX6_count_0 rfl rfl ?_
      refine xv_tableIn (off := 51) (t := 52) dX6_count_1 (by decide) (by decide) rfl rfl ?_
      refine xv_aload_n (q := 53) rfl dX6_count_52 rfl rfl ?_
      refine xv_geti (q := 56) rfl dX6_count_53 f_X6_55 (hg.1 _ _ rfl) ?_
      refine xv_iret dX6_count_56 rfl ?_
      exact ⟨by rw [htc]; rfl, rfl, rfl, rfl, rfl⟩
    · refine xv_iload_n (q := 1) rfl dX6_count_0 rfl rfl ?_
      refine xv_tableIn (off := 56) (t := 57) dX6_count_1 (by decide) (by decide) rfl rfl ?_
      refine xv_aload_n (q := 58) rfl dX6_count_57 rfl rfl ?_
      refine xv_geto (q := 61) rfl dX6_count_58 f_X6_22 (hg.1 _ _ rfl) (hg.2 _ _ _ rfl) ?_
      refine xv_geti (q := 64) rfl dX6_count_61 f_X6_125 (hg.1 _ _ rfl) ?_
      refine xv_iret dX6_count_64 rfl ?_
      exact ⟨by rw [htl]; rfl, rfl, rfl, rfl, rfl⟩
    · refine xv_iload_n (q := 1) rfl dX6_count_0 rfl rfl ?_
      refine xv_tableIn (off := 64) (t := 65) dX6_count_1 (by decide) (by decide) rfl rfl ?_
      refine xv_aload_n (q := 66) rfl dX6_count_65 rfl rfl ?_
      refine xv_geto (q := 69) rfl dX6_count_66 f_X6_10 (hg.1 _ _ rfl) (hg.2 _ _ _ rfl) ?_
      refine xv_geti (q := 72) rfl dX6_count_69 f_X6_142 (hg.1 _ _ rfl) ?_
      refine xv_iret dX6_count_72 rfl ?_
      exact ⟨by rw [hu]; rfl, rfl, rfl, rfl, rfl⟩
/-- the loop of riders: k are tried, came have come -/
def rdF (ln : Nat) (it : Nat → Int32) (from_ : Int32) (N : Nat) : Nat → Nat → Nat → CR → Int32 × Nat × CR
  | 0, came, n, c => (nI came, n, c)
  | k + 1, came, n, c =>
    if hld (nI ln) (from_ + nI 3 * nI (N - (k + 1))) (nI 3) = false then (-12, n, c)
    else
      let a := (from_ + nI 3 * nI (N - (k + 1))).toNatClampNeg
      let q := sp_rider n c (it a) (it (a + 1)) (it (a + 2))
      rdF ln it from_ N k (if q.1 < 0 then came else came + 1) q.2.1 q.2.2
def sp_riders (sg : SG) (n : Nat) (c : CR) (x so from_ m : Int32) : Int32 × Nat × CR :=
  if isSh x = false ∨ so < 0 ∨ nI 3 ≤ so ∨ m < 0 ∨ ¬ m ≤ nI 5 then (-2, n, c)
  else match sg x.toNatClampNeg with
    | none => (-11, n, c)
    | some q => if ¬ nI q.1 = so then (-13, n, c) else rdF q.2.1 q.2.2 from_ m.toNatClampNeg m.toNatClampNeg 0 n c
theorem sp_riders_n {sg : SG} {s : Nat} {so f m : Int32} (hq : ¬ (isSh (nI s) = false ∨ so < 0 ∨ nI 3 ≤ so ∨ m < 0 ∨ ¬ m ≤ nI 5)) (hs : s < 4) (h : sg s = none) : sp_riders sg n c (nI s) so f m = (-11, n, c) := by
  unfold sp_riders; rw [if_neg hq, nI_clamp (n := s) (by omega), h]
theorem sp_riders_s {sg : SG} {s a ln : Nat} {it : Nat → Int32} {so f m : Int32} (hq : ¬ (isSh (nI s) = false ∨ so < 0 ∨ nI 3 ≤ so ∨ m < 0 ∨ ¬ m ≤ nI 5)) (hs : s < 4) (h : sg s = some (a, ln, it)) : sp_riders sg n c (nI s) so f m = if ¬ nI a = so then (-13, n, c) else rdF ln it f m.toNatClampNeg m.toNatClampNeg 0 n c := by
  unfold sp_riders; rw [if_neg hq, nI_clamp (n := s) (by omega), h]
end RIDERS4

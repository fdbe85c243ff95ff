/-! the model: small methods -/
def lin (x a b : Int64) : Bool := decide (a ≤ x ∧ x ≤ b)
theorem lin_iff {x : Int32} {a b : Int64} : lin x.toInt64 a b = true ↔ a.toInt ≤ x.toInt ∧ x.toInt ≤ b.toInt := by
  unfold lin
  rw [decide_eq_true_iff, Int64.le_iff_toInt_le, Int64.le_iff_toInt_le, Int32.toInt_toInt64]
theorem lin_f {x : Int32} {a b : Int64} : lin x.toInt64 a b = false ↔ ¬ (a.toInt ≤ x.toInt ∧ x.toInt ≤ b.toInt) := by
  rw [← lin_iff]
  cases lin x.toInt64 a b <;> simp
/-- the model's crew -/
def MKc (I : XI) (n : Nat) (c : CR) (dd u : Nat) : Prop := XCm I 64 (ci c) n ∧ I 61 15 = nI n ∧ n ≤ 5 ∧ I 61 7 = nI dd ∧ (dd = 1 ∨ dd = 2) ∧ I 61 4 = nI u ∧ wfc c n
theorem popc_d : ∀ m, m < 32 → ¬ m = 0 → popc (m &&& (m - 1)) + 1 = popc m ∧ m &&& (m - 1) < m := by decide +kernel
theorem lts_sm {c : CR} {r : Nat} {z : Int32} : ∀ {k : Nat}, c 0 r = k → (k = 0 ∨ k = 2 ∨ k = 4) → lts (ci c) r z = false := by
  intro k hk h
  unfold lts ci
  rw [hk]
  rcases h with rfl | rfl | rfl <;> rfl
section MSMALL
variable {E : XE} {d : Nat} {sh : XSh} {I : XI} {R : XRf} {L : XL} {n dd u : Nat} {c : CR}
theorem m_in (x a b : Int64) : XC E mX7_in d 0 0 [.long x, .long a, .long b] sh I R L (xq (some (.int (bI (lin x a b)))) sh I R L) := by
  refine XC.of (by decide) rfl rfl ?_
  refine xv_lload_n (q := 1) rfl dX7_in_0 rfl rfl ?_
  refine xv_lload_n (q := 2) rfl dX7_in_1 rfl rfl ?_
  refine xv_lcmp (q := 3) rfl dX7_in_2 ?_
  refine xv_if_lt (q := 6) (t := 17) rfl rfl dX7_in_3 (fun zh3 => ?_) (fun zh3 => ?_)
  · have zh3 := (lg_cmp_lt _ _).mp zh3
    refine xv_iconst (v := nI 0) (q := 18) rfl dX7_in_17 rfl ?_
    refine xv_zret (ty := .boolean) dX7_in_18 rfl rfl ?_
    exact ⟨by unfold lin; rw [decide_eq_false (fun q => Int64.not_le.mpr zh3 q.1)]; rfl, rfl, rfl, rfl, rfl⟩
  · have zh3 := Int64.not_lt.mp (fun q => zh3 ((lg_cmp_lt _ _).mpr q))
    refine xv_lload_n (q := 7) rfl dX7_in_6 rfl rfl ?_
    refine xv_lload (q := 9) rfl dX7_in_7 rfl ?_
    refine xv_lcmp (q := 10) rfl dX7_in_9 ?_
    refine xv_if_gt (q := 13) (t := 17) rfl rfl dX7_in_10 (fun h10 => ?_) (fun h10 => ?_)
    · have h10 := (lg_cmp_gt _ _).mp h10
      refine xv_iconst (v := nI 0) (q := 18) rfl dX7_in_17 rfl ?_
      refine xv_zret (ty := .boolean) dX7_in_18 rfl rfl ?_
      exact ⟨by unfold lin; rw [decide_eq_false (fun q => Int64.not_le.mpr h10 q.2)]; rfl, rfl, rfl, rfl, rfl⟩
    · have h10 := Int64.not_lt.mp (fun q => h10 ((lg_cmp_gt _ _).mpr q))
      refine xv_iconst (v := nI 1) (q := 14) rfl dX7_in_13 rfl ?_
      refine xv_goto (t := 18) rfl dX7_in_14 ?_
      refine xv_zret (ty := .boolean) dX7_in_18 rfl rfl ?_
      exact ⟨by unfold lin; rw [decide_eq_true ⟨zh3, h10⟩]; rfl, rfl, rfl, rfl, rfl⟩
theorem lin_isR (hn5 : n ≤ 5) (x : Int32) : lin x.toInt64 (lN 0) (nI n - nI 1).toInt64 = isR n x := by
  have ze1 : (nI n - nI 1).toInt64.toInt = (n : Int) - 1 := by
    rw [Int32.toInt_toInt64, pk_sub_toInt (by omega) (by decide)]; rfl
  have ze0 : (lN 0).toInt = 0 := rfl
  have hl := lin_iff (x := x) (a := lN 0) (b := (nI n - nI 1).toInt64)
  rw [ze1, ze0] at hl
  unfold isR
  rw [Bool.eq_iff_iff, decide_eq_true_iff, hl, Int32.lt_iff_toInt_lt, Int32.le_iff_toInt_le, nI_toInt (by omega)]
  simp only [Int32.toInt_zero]
  omega
theorem lin_isSh (x : Int32) : lin x.toInt64 (lN 0) 3 = isSh x := by
  have hl := lin_iff (x := x) (a := lN 0) (b := 3)
  have ze0 : (lN 0).toInt = 0 := rfl
  have ze3 : (3 : Int64).toInt = 3 := rfl
  rw [ze0, ze3] at hl
  unfold isSh
  rw [Bool.eq_iff_iff, decide_eq_true_iff, hl, Int32.lt_iff_toInt_lt, Int32.le_iff_toInt_le, nI_toInt (by decide)]
  simp only [Int32.toInt_zero]
  omega
theorem m_isR (hg : XG sh R) (hn : I 61 15 = nI n) (hn5 : n ≤ 5) (x : Int32) : XC E mX7_isRider (d + 1) 0 0 [.ref 61, .int x] sh I R L (xq (some (.int (bI (isR n x)))) sh I R L) := by
  refine XC.of (by decide) rfl rfl ?_
  refine xv_iload_n (q := 1) rfl dX7_isRider_0 rfl rfl ?_
  refine xv_i2l (q := 2) rfl dX7_isRider_1 ?_
  refine xv_lconst (v := lN 0) (q := 3) rfl dX7_isRider_2 rfl ?_
  refine xv_aload_n (q := 4) rfl dX7_isRider_3 rfl rfl ?_
  refine xv_geti (q := 7) rfl dX7_isRider_4 f_X7_88 (hg.1 _ _ rfl) ?_
  rw [hn]
  refine xv_iconst (v := nI 1) (q := 8) rfl dX7_isRider_7 rfl ?_
  refine xv_isub (q := 9) rfl dX7_isRider_8 ?_
  refine xv_i2l (q := 10) rfl dX7_isRider_9 ?_
  refine xv_cS3 (z := mX7_in) (q := 13) rfl dX7_isRider_10 l_X7_91 gX7_in rfl (m_in (d := d) _ _ _) (by omega) ?_
  rw [lin_isR hn5]
  refine xv_zret (ty := .boolean) dX7_isRider_13 rfl (by cases isR n x <;> rfl) ?_
  exact xq_rfl
theorem m_isSh (x : Int32) : XC E mX7_isSheet (d + 1) 0 0 [.int x] sh I R L (xq (some (.int (bI (isSh x)))) sh I R L) := by
  refine XC.of (by decide) rfl rfl ?_
  refine xv_iload_n (q := 1) rfl dX7_isSheet_0 rfl rfl ?_
  refine xv_i2l (q := 2) rfl dX7_isSheet_1 ?_
  refine xv_lconst (v := lN 0) (q := 3) rfl dX7_isSheet_2 rfl ?_
  refine xv_ldc2 (q := 6) rfl dX7_isSheet_3 k_X7_358 ?_
  refine xv_cS3 (z := mX7_in) (q := 9) rfl dX7_isSheet_6 l_X7_91 gX7_in rfl (m_in (d := d) _ _ _) (by omega) ?_
  rw [lin_isSh]
  refine xv_zret (ty := .boolean) dX7_isSheet_9 rfl (by cases isSh x <;> rfl) ?_
  exact xq_rfl
theorem m_all (hg : XG sh R) (hn : I 61 15 = nI n) (hn5 : n ≤ 5) : XC E mX7_allRiders d 0 0 [.ref 61] sh I R L (xq (some (.int (nI (aln n)))) sh I R L) := by
  refine XC.of (by decide) rfl rfl ?_
  refine xv_iconst (v := nI 1) (q := 1) rfl dX7_allRiders_0 rfl ?_
  refine xv_aload_n (q := 2) rfl dX7_allRiders_1 rfl rfl ?_
  refine xv_geti (q := 5) rfl dX7_allRiders_2 f_X7_88 (hg.1 _ _ rfl) ?_
  rw [hn]
  refine xv_ishl (q := 6) rfl dX7_allRiders_5 ?_
  refine xv_iconst (v := nI 1) (q := 7) rfl dX7_allRiders_6 rfl ?_
  refine xv_isub (q := 8) rfl dX7_allRiders_7 ?_
  refine xv_as (w := nI (aln n)) (all_sh n hn5) ?_
  refine xv_iret dX7_allRiders_8 rfl ?_
  exact xq_rfl
theorem m_bits_loop {v : Nat} : ∀ (k left cnt : Nat), left < k → left < 32 → cnt + popc left = popc v → ∀ l0 : Option Value, XV E mX7_bitsOf d 0 0 (xq (some (.int (nI (popc v)))) sh I R L) 0 0 4 [l0, some (.int (nI cnt)), some (.int (nI left))] [] sh I R L := by
  intro k
  induction k with
  | zero => intro left cnt zh1; exact absurd zh1 (Nat.not_lt_zero _)
  | succ k ih =>
    intro left cnt zh1 zh2 zh3 l0
    refine xv_iload_n (q := 5) rfl dX7_bitsOf_4 rfl rfl ?_
    refine xv_if_eq (q := 8) (t := 20) rfl rfl dX7_bitsOf_5 (fun zh5 => ?_) (fun zh5 => ?_)
    · have zh5 : left = 0 := nIe (b := 0) zh5 (by omega) (by decide)
      refine xv_iload_n (q := 21) rfl dX7_bitsOf_20 rfl rfl ?_
      refine xv_iret dX7_bitsOf_21 rfl ?_
      subst zh5
      exact ⟨by rw [← zh3]; rfl, rfl, rfl, rfl, rfl⟩
    · have zh5 : ¬ left = 0 := fun q => zh5 (by rw [q]; rfl)
      have hpd := popc_d left zh2 zh5
      refine xv_iinc (q := 11) (v := nI 1) rfl dX7_bitsOf_8 rfl rfl ?_
      refine xv_iload_n (q := 12) rfl dX7_bitsOf_11 rfl rfl ?_
      refine xv_iload_n (q := 13) rfl dX7_bitsOf_12 rfl rfl ?_
      refine xv_iconst (v := nI 1) (q := 14) rfl dX7_bitsOf_13 rfl ?_
      refine xv_isub (q := 15) rfl dX7_bitsOf_14 ?_
      refine xv_as (w := nI (left - 1)) (pk_sub (by omega)) ?_
      refine xv_iand (q := 16) rfl dX7_bitsOf_15 ?_
      refine xv_as (w := nI (left &&& (left - 1))) (nI_and _ _) ?_
      refine xv_istore_n (q := 17) rfl dX7_bitsOf_16 rfl rfl ?_
      refine xv_goto (t := 4) rfl dX7_bitsOf_17 ?_
      rw [nI_add]
      exact ih (left &&& (left - 1)) (cnt + 1) (by omega) (by omega) (by omega) _
theorem m_bits {v : Nat} (hv : v < 32) : XC E mX7_bitsOf d 0 0 [.int (nI v)] sh I R L (xq (some (.int (nI (popc v)))) sh I R L) := by
  refine XC.of (by decide) rfl rfl ?_
  refine xv_iconst (v := nI 0) (q := 1) rfl dX7_bitsOf_0 rfl ?_
  refine xv_istore_n (q := 2) rfl dX7_bitsOf_1 rfl rfl ?_
  refine xv_iload_n (q := 3) rfl dX7_bitsOf_2 rfl rfl ?_
  refine xv_istore_n (q := 4) rfl dX7_bitsOf_3 rfl rfl ?_
  exact m_bits_loop (v + 1) v 0 (Nat.lt_succ_self v) hv (Nat.zero_add _) _
theorem m_within (x : Int32) : XC E mX7_within d 0 0 [.int x, .int (nI 0), .int (nI 99)] sh I R L (xq (some (.int (nI (clp x)))) sh I R L) := by
  refine XC.of (by decide) rfl rfl ?_
  refine xv_iload_n (q := 1) rfl dX7_within_0 rfl rfl ?_
  refine xv_iload_n (q := 2) rfl dX7_within_1 rfl rfl ?_
  refine xv_icmp_ge (q := 5) (t := 9) rfl rfl dX7_within_2 (fun zh2 => ?_) (fun zh2 => ?_)
  · refine xv_iload_n (q := 10) rfl dX7_within_9 rfl rfl ?_
    refine xv_iload_n (q := 11) rfl dX7_within_10 rfl rfl ?_
    refine xv_icmp_le (q := 14) (t := 18) rfl rfl dX7_within_11 (fun h11 => ?_) (fun h11 => ?_)
    · refine xv_iload_n (q := 19) rfl dX7_within_18 rfl rfl ?_
      refine xv_iret dX7_within_19 rfl ?_
      exact ⟨by unfold clp; rw [if_neg (show ¬ x < 0 from Int32.not_lt.mpr zh2), if_neg (Int32.not_lt.mpr h11)]; obtain ⟨j, zhj, rfl⟩ := nI_of (Int32.not_lt.mpr zh2); rw [nI_clamp zhj], rfl, rfl, rfl, rfl⟩
    · refine xv_iload_n (q := 15) rfl dX7_within_14 rfl rfl ?_
      refine xv_goto (t := 19) rfl dX7_within_15 ?_
      refine xv_iret dX7_within_19 rfl ?_
      exact ⟨by unfold clp; rw [if_neg (show ¬ x < 0 from Int32.not_lt.mpr zh2), if_pos (Int32.not_le.mp h11)], rfl, rfl, rfl, rfl⟩
  · refine xv_iload_n (q := 6) rfl dX7_within_5 rfl rfl ?_
    refine xv_goto (t := 19) rfl dX7_within_6 ?_
    refine xv_iret dX7_within_19 rfl ?_
    exact ⟨by unfold clp; rw [if_pos (show x < 0 from Int32.not_le.mp zh2)], rfl, rfl, rfl, rfl⟩
theorem m_two_in (hg : XG sh R) {q : CR} {m r : Nat} (hm : XCm I 64 (ci q) m) (hm5 : m ≤ 5) (hr : r < m) {Q : XQ} (hQ : aks (ci q) m = false → Q (some (.int (nI 1))) sh I R L) (KK : oks (ci q) r r = true → ∀ l3, XV E mX7_areTwo d 0 0 Q 0 0 67 [some (.ref 61), some (.int (nI m)), some (.int (nI r)), l3] [] sh I R L) :
    ∀ (k o : Nat), o ≤ r → r < o + k → oks (ci q) r o = true → XV E mX7_areTwo d 0 0 Q 0 0 9 [some (.ref 61), some (.int (nI m)), some (.int (nI r)), some (.int (nI o))] [] sh I R L := by
  intro k
  induction k with
  | zero => intro o zh1 zh2; exact absurd zh2 (by omega)
  | succ k ih =>
    intro o zh1 zh2 hok
    refine xv_iload_n (q := 10) rfl dX7_areTwo_9 rfl rfl ?_
    refine xv_iload_n (q := 11) rfl dX7_areTwo_10 rfl rfl ?_
    refine xv_icmp_ge (q := 14) (t := 67) rfl rfl dX7_areTwo_11 (fun h11 => ?_) (fun h11 => ?_)
    · have hor : o = r := by have := nIle h11 (by omega) (by omega); omega
      rw [hor] at hok
      exact KK hok _
    · have hor : o < r := nInle h11 (by omega) (by omega)
      refine xv_aload_n (q := 15) rfl dX7_areTwo_14 rfl rfl ?_
      refine xv_geta (q := 18) rfl dX7_areTwo_15 f_X7_41 (hg.1 _ _ rfl) (hg.2 _ _ _ rfl) ?_
      refine xv_iload_n (q := 19) rfl dX7_areTwo_18 rfl rfl ?_
      refine xv_iald (q := 20) rfl dX7_areTwo_19 (hg.1 _ _ rfl) rfl (by omega) (by decide) ?_
      refine xv_as (w := ci q 5 r) (hm 5 r (by decide) hr) ?_
      refine xv_aload_n (q := 21) rfl dX7_areTwo_20 rfl rfl ?_
      refine xv_geta (q := 24) rfl dX7_areTwo_21 f_X7_41 (hg.1 _ _ rfl) (hg.2 _ _ _ rfl) ?_
      refine xv_iload_n (q := 25) rfl dX7_areTwo_24 rfl rfl ?_
      refine xv_iald (q := 26) rfl dX7_areTwo_25 (hg.1 _ _ rfl) rfl (by omega) (by decide) ?_
      refine xv_as (w := ci q 5 o) (hm 5 o (by decide) (by omega)) ?_
      refine xv_icmp_ne (q := 29) (t := 61) rfl rfl dX7_areTwo_26 (fun h26 => ?_) (fun h26 => ?_)
      · have hcf : cf (ci q) o r = false := by unfold cf; rw [decide_eq_false (fun z => h26 z.symm)]; rfl
        refine xv_iinc (q := 64) (v := nI 1) rfl dX7_areTwo_61 rfl rfl ?_
        refine xv_goto (t := 9) rfl dX7_areTwo_64 ?_
        rw [nI_add]
        exact ih (o + 1) (by omega) (by omega) (by show (oks (ci q) r o && (decide (o = r) || !cf (ci q) o r)) = true; rw [hok, hcf]; simp)
      · refine xv_aload_n (q := 30) rfl dX7_areTwo_29 rfl rfl ?_
        refine xv_geta (q := 33) rfl dX7_areTwo_30 f_X7_35 (hg.1 _ _ rfl) (hg.2 _ _ _ rfl) ?_
        refine xv_iload_n (q := 34) rfl dX7_areTwo_33 rfl rfl ?_
        refine xv_iald (q := 35) rfl dX7_areTwo_34 (hg.1 _ _ rfl) rfl (by omega) (by decide) ?_
        refine xv_as (w := ci q 3 r) (hm 3 r (by decide) hr) ?_
        refine xv_aload_n (q := 36) rfl dX7_areTwo_35 rfl rfl ?_
        refine xv_geta (q := 39) rfl dX7_areTwo_36 f_X7_38 (hg.1 _ _ rfl) (hg.2 _ _ _ rfl) ?_
        refine xv_iload_n (q := 40) rfl dX7_areTwo_39 rfl rfl ?_
        refine xv_iald (q := 41) rfl dX7_areTwo_40 (hg.1 _ _ rfl) rfl (by omega) (by decide) ?_
        refine xv_as (w := ci q 4 o) (hm 4 o (by decide) (by omega)) ?_
        refine xv_icmp_ge (q := 44) (t := 61) rfl rfl dX7_areTwo_41 (fun h41 => ?_) (fun h41 => ?_)
        · have hcf : cf (ci q) o r = false := by unfold cf; rw [decide_eq_false (ilen h41), Bool.and_false, Bool.and_false]
          refine xv_iinc (q := 64) (v := nI 1) rfl dX7_areTwo_61 rfl rfl ?_
          refine xv_goto (t := 9) rfl dX7_areTwo_64 ?_
          rw [nI_add]
          exact ih (o + 1) (by omega) (by omega) (by show (oks (ci q) r o && (decide (o = r) || !cf (ci q) o r)) = true; rw [hok, hcf]; simp)
        · refine xv_aload_n (q := 45) rfl dX7_areTwo_44 rfl rfl ?_
          refine xv_geta (q := 48) rfl dX7_areTwo_45 f_X7_35 (hg.1 _ _ rfl) (hg.2 _ _ _ rfl) ?_
          refine xv_iload_n (q := 49) rfl dX7_areTwo_48 rfl rfl ?_
          refine xv_iald (q := 50) rfl dX7_areTwo_49 (hg.1 _ _ rfl) rfl (by omega) (by decide) ?_
          refine xv_as (w := ci q 3 o) (hm 3 o (by decide) (by omega)) ?_
          refine xv_aload_n (q := 51) rfl dX7_areTwo_50 rfl rfl ?_
          refine xv_geta (q := 54) rfl dX7_areTwo_51 f_X7_38 (hg.1 _ _ rfl) (hg.2 _ _ _ rfl) ?_
          refine xv_iload_n (q := 55) rfl dX7_areTwo_54 rfl rfl ?_
          refine xv_iald (q := 56) rfl dX7_areTwo_55 (hg.1 _ _ rfl) rfl (by omega) (by decide) ?_
          refine xv_as (w := ci q 4 r) (hm 4 r (by decide) hr) ?_
          refine xv_icmp_ge (q := 59) (t := 61) rfl rfl dX7_areTwo_56 (fun h56 => ?_) (fun h56 => ?_)
          · have hcf : cf (ci q) o r = false := by unfold cf; rw [decide_eq_false (ilen h56), Bool.false_and, Bool.and_false]
            refine xv_iinc (q := 64) (v := nI 1) rfl dX7_areTwo_61 rfl rfl ?_
            refine xv_goto (t := 9) rfl dX7_areTwo_64 ?_
            rw [nI_add]
            exact ih (o + 1) (by omega) (by omega) (by show (oks (ci q) r o && (decide (o = r) || !cf (ci q) o r)) = true; rw [hok, hcf]; simp)
          · refine xv_iconst (v := nI 1) (q := 60) rfl dX7_areTwo_59 rfl ?_
            refine xv_zret (ty := .boolean) dX7_areTwo_60 rfl rfl ?_
            have hcf : cf (ci q) o r = true := by unfold cf; rw [decide_eq_true h26.symm, decide_eq_true (ile h56), decide_eq_true (ile h41)]; rfl
            have hf : oks (ci q) r (o + 1) = false := by show (oks (ci q) r o && (decide (o = r) || !cf (ci q) o r)) = false; rw [hcf, decide_eq_false (show ¬ o = r by omega)]; simp
            have hf2 : aks (ci q) (r + 1) = false := by show (aks (ci q) r && oks (ci q) r r) = false; rw [oks_le hf (by omega), Bool.and_false]
            exact hQ (aks_le hf2 (by omega))
theorem m_two_out (hg : XG sh R) {q : CR} {m : Nat} (hm : XCm I 64 (ci q) m) (hm5 : m ≤ 5) : ∀ (k r : Nat) (l3 : Option Value), r ≤ m → m < r + k → aks (ci q) r = true → XV E mX7_areTwo d 0 0 (xq (some (.int (bI (!aks (ci q) m)))) sh I R L) 0 0 2 [some (.ref 61), some (.int (nI m)), some (.int (nI r)), l3] [] sh I R L := by
  intro k
  induction k with
  | zero => intro r l3 zh1 zh2; exact absurd zh2 (by omega)
  | succ k ih =>
    intro r l3 zh1 zh2 hok
    refine xv_iload_n (q := 3) rfl dX7_areTwo_2 rfl rfl ?_
    refine xv_iload_n (q := 4) rfl dX7_areTwo_3 rfl rfl ?_
    refine xv_icmp_ge (q := 7) (t := 73) rfl rfl dX7_areTwo_4 (fun zh4 => ?_) (fun zh4 => ?_)
    · have hrm : r = m := by have := nIle zh4 (by omega) (by omega); omega
      subst hrm
      refine xv_iconst (v := nI 0) (q := 74) rfl dX7_areTwo_73 rfl ?_
      refine xv_zret (ty := .boolean) dX7_areTwo_74 rfl rfl ?_
      exact ⟨by rw [hok]; rfl, rfl, rfl, rfl, rfl⟩
    · have hrm : r < m := nInle zh4 (by omega) (by omega)
      refine xv_iconst (v := nI 0) (q := 8) rfl dX7_areTwo_7 rfl ?_
      refine xv_istore_n (q := 9) rfl dX7_areTwo_8 rfl rfl ?_
      refine m_two_in hg hm hm5 hrm (fun q => ⟨by rw [q]; rfl, rfl, rfl, rfl, rfl⟩) (fun ho zm3 => ?_) (r + 1) 0 (by omega) (by omega) rfl
      refine xv_iinc (q := 70) (v := nI 1) rfl dX7_areTwo_67 rfl rfl ?_
      refine xv_goto (t := 2) rfl dX7_areTwo_70 ?_
      rw [nI_add]
      exact ih (r + 1) zm3 (by omega) (by omega) (by show (aks (ci q) r && oks (ci q) r r) = true; rw [hok, ho]; rfl)
theorem m_two (hg : XG sh R) {q : CR} {m : Nat} (hm : XCm I 64 (ci q) m) (hm5 : m ≤ 5) : XC E mX7_areTwo d 0 0 [.ref 61, .int (nI m)] sh I R L (xq (some (.int (bI (!aks (ci q) m)))) sh I R L) := by
  refine XC.of (by decide) rfl rfl ?_
  refine xv_iconst (v := nI 0) (q := 1) rfl dX7_areTwo_0 rfl ?_
  refine xv_istore_n (q := 2) rfl dX7_areTwo_1 rfl rfl ?_
  exact m_two_out hg hm hm5 (m + 1) 0 none (by omega) (by omega) rfl
theorem m_lets (hg : XG sh R) (hm : XCm I 64 (ci c) n) (hn5 : n ≤ 5) (hw : wfn c n) {r s : Nat} (hr : r < n) (zhs : s < n) : XC E mX7_doesLet d 0 0 [.ref 61, .int (nI r), .int (nI s)] sh I R L (xq (some (.int (bI (lts (ci c) r (nI (c 2 s)))))) sh I R L) := by
  refine XC.of (by decide) rfl rfl ?_
  have zh0 : c 0 r < 6 := (hw r hr).1
  have hp6 : c 5 r < 6 := (hw r hr).2.2.2.2.2.1
  refine xv_aload_n (q := 1) rfl dX7_doesLet_0 rfl rfl ?_
  refine xv_geta (q := 4) rfl dX7_doesLet_1 f_X7_26 (hg.1 _ _ rfl) (hg.2 _ _ _ rfl) ?_
  refine xv_iload_n (q := 5) rfl dX7_doesLet_4 rfl rfl ?_
  refine xv_iald (q := 6) rfl dX7_doesLet_5 (hg.1 _ _ rfl) rfl (by omega) (by decide) ?_
  refine xv_as (w := nI (c 0 r)) (hm 0 r (by decide) hr) ?_
  refine xv_istore_n (q := 7) rfl dX7_doesLet_6 rfl rfl ?_
  refine xv_aload_n (q := 8) rfl dX7_doesLet_7 rfl rfl ?_
  refine xv_geta (q := 11) rfl dX7_doesLet_8 f_X7_32 (hg.1 _ _ rfl) (hg.2 _ _ _ rfl) ?_
  refine xv_iload_n (q := 12) rfl dX7_doesLet_11 rfl rfl ?_
  refine xv_iald (q := 13) rfl dX7_doesLet_12 (hg.1 _ _ rfl) rfl (by omega) (by decide) ?_
  refine xv_as (w := nI (c 2 s)) (hm 2 s (by decide) zhs) ?_
  refine xv_istore (q := 15) rfl dX7_doesLet_13 rfl ?_
  refine xv_iload_n (q := 16) rfl dX7_doesLet_15 rfl rfl ?_
  refine xv_if_eq (q := 19) (t := 29) rfl rfl dX7_doesLet_16 (fun h16 => ?_) (fun h16 => ?_)
  · have h16 : c 0 r = 0 := nIe (b := 0) h16 (by omega) (by decide)
    refine xv_iconst (v := nI 0) (q := 30) rfl dX7_doesLet_29 rfl ?_
    refine xv_zret (ty := .boolean) dX7_doesLet_30 rfl rfl ?_
    exact ⟨by rw [lts_sm h16 (Or.inl rfl)]; rfl, rfl, rfl, rfl, rfl⟩
  · have h16 : ¬ c 0 r = 0 := fun q => h16 (by rw [q]; rfl)
    refine xv_iload_n (q := 20) rfl dX7_doesLet_19 rfl rfl ?_
    refine xv_iconst (v := nI 2) (q := 21) rfl dX7_doesLet_20 rfl ?_
    refine xv_icmp_eq (q := 24) (t := 29) rfl rfl dX7_doesLet_21 (fun h21 => ?_) (fun h21 => ?_)
    · have h21 : c 0 r = 2 := nIe h21 (by omega) (by decide)
      refine xv_iconst (v := nI 0) (q := 30) rfl dX7_doesLet_29 rfl ?_
      refine xv_zret (ty := .boolean) dX7_doesLet_30 rfl rfl ?_
      exact ⟨by rw [lts_sm h21 (Or.inr (Or.inl rfl))]; rfl, rfl, rfl, rfl, rfl⟩
    · have h21 : ¬ c 0 r = 2 := fun q => h21 (by rw [q])
      refine xv_iload_n (q := 25) rfl dX7_doesLet_24 rfl rfl ?_
      refine xv_iconst (v := nI 4) (q := 26) rfl dX7_doesLet_25 rfl ?_
      refine xv_icmp_ne (q := 29) (t := 31) rfl rfl dX7_doesLet_26 (fun h26 => ?_) (fun h26 => ?_)
      · have h26 : ¬ c 0 r = 4 := fun q => h26 (by rw [q])
        have h135 : c 0 r = 1 ∨ c 0 r = 3 ∨ c 0 r = 5 := by omega
        refine xv_iload (q := 33) rfl dX7_doesLet_31 rfl ?_
        refine xv_aload_n (q := 34) rfl dX7_doesLet_33 rfl rfl ?_
        refine xv_geta (q := 37) rfl dX7_doesLet_34 f_X7_29 (hg.1 _ _ rfl) (hg.2 _ _ _ rfl) ?_
        refine xv_iload_n (q := 38) rfl dX7_doesLet_37 rfl rfl ?_
        refine xv_iald (q := 39) rfl dX7_doesLet_38 (hg.1 _ _ rfl) rfl (by omega) (by decide) ?_
        refine xv_as (w := nI (c 1 r)) (hm 1 r (by decide) hr) ?_
        refine xv_icmp_ge (q := 42) (t := 44) rfl rfl dX7_doesLet_39 (fun h39 => ?_) (fun h39 => ?_)
        · have h39 : ¬ nI (c 2 s) < nI (c 1 r) := ilen h39
          refine xv_iload_n (q := 45) rfl dX7_doesLet_44 rfl rfl ?_
          refine xv_iconst (v := nI 3) (q := 46) rfl dX7_doesLet_45 rfl ?_
          have hd : decide (nI (c 2 s) < ci c 1 r) = false := decide_eq_false h39
          refine xv_icmp_ne (q := 49) (t := 60) rfl rfl dX7_doesLet_46 (fun h46 => ?_) (fun h46 => ?_)
          · have h46 : ¬ c 0 r = 3 := fun q => h46 (by rw [q])
            refine xv_iload_n (q := 61) rfl dX7_doesLet_60 rfl rfl ?_
            refine xv_iconst (v := nI 5) (q := 62) rfl dX7_doesLet_61 rfl ?_
            refine xv_icmp_ne (q := 65) (t := 83) rfl rfl dX7_doesLet_62 (fun h62 => ?_) (fun h62 => ?_)
            · have h62 : ¬ c 0 r = 5 := fun q => h62 (by rw [q])
              have zh1 : c 0 r = 1 := by omega
              refine xv_iconst (v := nI 0) (q := 84) rfl dX7_doesLet_83 rfl ?_
              refine xv_zret (ty := .boolean) dX7_doesLet_84 rfl rfl ?_
              exact ⟨by rw [lts_1 (c := ci c) (show ci c 0 r = nI 1 by unfold ci; rw [zh1]), hd]; rfl, rfl, rfl, rfl, rfl⟩
            · have h62 : c 0 r = 5 := nIe h62 (by omega) (by decide)
              refine xv_iload (q := 67) rfl dX7_doesLet_65 rfl ?_
              refine xv_aload_n (q := 68) rfl dX7_doesLet_67 rfl rfl ?_
              refine xv_geta (q := 71) rfl dX7_doesLet_68 f_X7_32 (hg.1 _ _ rfl) (hg.2 _ _ _ rfl) ?_
              refine xv_iload_n (q := 72) rfl dX7_doesLet_71 rfl rfl ?_
              refine xv_iald (q := 73) rfl dX7_doesLet_72 (hg.1 _ _ rfl) rfl (by omega) (by decide) ?_
              refine xv_as (w := nI (c 2 r)) (hm 2 r (by decide) hr) ?_
              refine xv_iadd (q := 74) rfl dX7_doesLet_73 ?_
              refine xv_bipush (v := nI 10) (q := 76) rfl dX7_doesLet_74 rfl ?_
              refine xv_icmp_ge (q := 79) (t := 83) rfl rfl dX7_doesLet_76 (fun h76 => ?_) (fun h76 => ?_)
              · refine xv_iconst (v := nI 0) (q := 84) rfl dX7_doesLet_83 rfl ?_
                refine xv_zret (ty := .boolean) dX7_doesLet_84 rfl rfl ?_
                exact ⟨by rw [lts_5 (c := ci c) (show ci c 0 r = nI 5 by unfold ci; rw [h62]), hd, decide_eq_false (show ¬ nI (c 2 s) + ci c 2 r < nI 10 from ilen h76)]; rfl, rfl, rfl, rfl, rfl⟩
              · refine xv_iconst (v := nI 1) (q := 80) rfl dX7_doesLet_79 rfl ?_
                refine xv_goto (t := 84) rfl dX7_doesLet_80 ?_
                refine xv_zret (ty := .boolean) dX7_doesLet_84 rfl rfl ?_
                exact ⟨by rw [lts_5 (c := ci c) (show ci c 0 r = nI 5 by unfold ci; rw [h62]), decide_eq_true (show nI (c 2 s) + ci c 2 r < nI 10 from ile h76)]; rfl, rfl, rfl, rfl, rfl⟩
          · have h46 : c 0 r = 3 := nIe h46 (by omega) (by decide)
            refine xv_aload_n (q := 50) rfl dX7_doesLet_49 rfl rfl ?_
            refine xv_geta (q := 53) rfl dX7_doesLet_50 f_X7_41 (hg.1 _ _ rfl) (hg.2 _ _ _ rfl) ?_
            refine xv_iload_n (q := 54) rfl dX7_doesLet_53 rfl rfl ?_
            refine xv_iald (q := 55) rfl dX7_doesLet_54 (hg.1 _ _ rfl) rfl (by omega) (by decide) ?_
            refine xv_as (w := nI (c 5 r)) (hm 5 r (by decide) hr) ?_
            refine xv_iconst (v := nI 2) (q := 56) rfl dX7_doesLet_55 rfl ?_
            refine xv_idiv (q := 57) rfl dX7_doesLet_56 (by decide) ?_
            refine xv_as (w := nI (c 5 r / 2)) (pk_div (by omega) (by decide) (by decide)) ?_
            refine xv_if_eq (q := 60) (t := 79) rfl rfl dX7_doesLet_57 (fun h57 => ?_) (fun h57 => ?_)
            · have h57 : c 5 r / 2 = 0 := nIe (b := 0) h57 (by omega) (by decide)
              refine xv_iconst (v := nI 1) (q := 80) rfl dX7_doesLet_79 rfl ?_
              refine xv_goto (t := 84) rfl dX7_doesLet_80 ?_
              refine xv_zret (ty := .boolean) dX7_doesLet_84 rfl rfl ?_
              exact ⟨by rw [lts_3 (c := ci c) (show ci c 0 r = nI 3 by unfold ci; rw [h46]), decide_eq_true (show ci c 5 r >>> (nI 1 &&& 31) = 0 by unfold ci; rw [pk_shrN (by omega) _ 1 (by decide), show c 5 r / 2 ^ 1 = 0 from h57]; rfl)]; rfl, rfl, rfl, rfl, rfl⟩
            · have h57 : ¬ c 5 r / 2 = 0 := fun q => h57 (by rw [q]; rfl)
              refine xv_iload_n (q := 61) rfl dX7_doesLet_60 rfl rfl ?_
              refine xv_iconst (v := nI 5) (q := 62) rfl dX7_doesLet_61 rfl ?_
              refine xv_icmp_ne (q := 65) (t := 83) rfl rfl dX7_doesLet_62 (fun h62 => ?_) (fun h62 => ?_)
              · refine xv_iconst (v := nI 0) (q := 84) rfl dX7_doesLet_83 rfl ?_
                refine xv_zret (ty := .boolean) dX7_doesLet_84 rfl rfl ?_
                exact ⟨by rw [lts_3 (c := ci c) (show ci c 0 r = nI 3 by unfold ci; rw [h46]), hd, decide_eq_false (show ¬ ci c 5 r >>> (nI 1 &&& 31) = 0 from fun q => by unfold ci at q; rw [pk_shrN (by omega) _ 1 (by decide)] at q; exact h57 (nIe (b := 0) q (by omega) (by decide)))]; rfl, rfl, rfl, rfl, rfl⟩
              · exact absurd (nIe h62 (by omega) (by decide)) (by omega)
        · have h39 : nI (c 2 s) < nI (c 1 r) := ile h39
          refine xv_iconst (v := nI 1) (q := 43) rfl dX7_doesLet_42 rfl ?_
          refine xv_zret (ty := .boolean) dX7_doesLet_43 rfl rfl ?_
          refine ⟨?_, rfl, rfl, rfl, rfl⟩
          have hd : decide (nI (c 2 s) < ci c 1 r) = true := decide_eq_true h39
          rcases h135 with q | q | q
          · rw [lts_1 (c := ci c) (show ci c 0 r = nI 1 by unfold ci; rw [q]), hd]; rfl
          · rw [lts_3 (c := ci c) (show ci c 0 r = nI 3 by unfold ci; rw [q]), hd, Bool.or_true]; rfl
          · rw [lts_5 (c := ci c) (show ci c 0 r = nI 5 by unfold ci; rw [q]), hd, Bool.or_true]; rfl
      · have h26 : c 0 r = 4 := nIe h26 (by omega) (by decide)
        refine xv_iconst (v := nI 0) (q := 30) rfl dX7_doesLet_29 rfl ?_
        refine xv_zret (ty := .boolean) dX7_doesLet_30 rfl rfl ?_
        exact ⟨by rw [lts_sm h26 (Or.inr (Or.inr rfl))]; rfl, rfl, rfl, rfl, rfl⟩
theorem m_costs (hg : XG sh R) (hm : XCm I 64 (ci c) n) (hn5 : n ≤ 5) (hw : wfn c n) {r v : Nat} (hr : r < n) (hv : v ≤ 99) : XC E mX7_costsOf d 0 0 [.ref 61, .int (nI r), .int (nI v)] sh I R L (xq (some (.int (nI (csn c r v)))) sh I R L) := by
  refine XC.of (by decide) rfl rfl ?_
  have zh0 : c 0 r < 6 := (hw r hr).1
  have hp6 : c 5 r < 6 := (hw r hr).2.2.2.2.2.1
  have zh2 : c 2 r < 10 := (hw r hr).2.2.1
  refine xv_aload_n (q := 1) rfl dX7_costsOf_0 rfl rfl ?_
  refine xv_geta (q := 4) rfl dX7_costsOf_1 f_X7_26 (hg.1 _ _ rfl) (hg.2 _ _ _ rfl) ?_
  refine xv_iload_n (q := 5) rfl dX7_costsOf_4 rfl rfl ?_
  refine xv_iald (q := 6) rfl dX7_costsOf_5 (hg.1 _ _ rfl) rfl (by omega) (by decide) ?_
  refine xv_as (w := nI (c 0 r)) (hm 0 r (by decide) hr) ?_
  refine xv_istore_n (q := 7) rfl dX7_costsOf_6 rfl rfl ?_
  refine xv_iload_n (q := 8) rfl dX7_costsOf_7 rfl rfl ?_
  refine xv_iconst (v := nI 2) (q := 9) rfl dX7_costsOf_8 rfl ?_
  refine xv_icmp_ne (q := 12) (t := 18) rfl rfl dX7_costsOf_9 (fun zh9 => ?_) (fun zh9 => ?_)
  · have zh9 : ¬ c 0 r = 2 := fun q => zh9 (by rw [q])
    refine xv_iload_n (q := 19) rfl dX7_costsOf_18 rfl rfl ?_
    refine xv_iconst (v := nI 4) (q := 20) rfl dX7_costsOf_19 rfl ?_
    refine xv_icmp_ne (q := 23) (t := 36) rfl rfl dX7_costsOf_20 (fun h20 => ?_) (fun h20 => ?_)
    · have h20 : ¬ c 0 r = 4 := fun q => h20 (by rw [q])
      refine xv_iload_n (q := 37) rfl dX7_costsOf_36 rfl rfl ?_
      refine xv_iconst (v := nI 3) (q := 38) rfl dX7_costsOf_37 rfl ?_
      refine xv_icmp_ne (q := 41) (t := 47) rfl rfl dX7_costsOf_38 (fun h38 => ?_) (fun h38 => ?_)
      · have h38 : ¬ c 0 r = 3 := fun q => h38 (by rw [q])
        refine xv_iload_n (q := 48) rfl dX7_costsOf_47 rfl rfl ?_
        refine xv_iconst (v := nI 5) (q := 49) rfl dX7_costsOf_48 rfl ?_
        refine xv_icmp_ne (q := 52) (t := 58) rfl rfl dX7_costsOf_49 (fun h49 => ?_) (fun h49 => ?_)
        · have h49 : ¬ c 0 r = 5 := fun q => h49 (by rw [q])
          have hc : csn c r v = v := by unfold csn; rw [if_neg zh9, if_neg h38, if_neg h20, if_neg h49]
          refine xv_iload_n (q := 59) rfl dX7_costsOf_58 rfl rfl ?_
          refine xv_as (w := nI (csn c r v)) (by rw [hc]) ?_
          refine xv_istore (q := 61) rfl dX7_costsOf_59 rfl ?_
          refine xv_iload (q := 63) rfl dX7_costsOf_61 rfl ?_
          refine xv_if_ge (q := 66) (t := 70) rfl rfl dX7_costsOf_63 (fun h63 => ?_) (fun h63 => ?_)
          · refine xv_iload (q := 72) rfl dX7_costsOf_70 rfl ?_
            refine xv_iret dX7_costsOf_72 rfl ?_
            exact xq_rfl
          · exact absurd (nI_pos' (by have := csn_le zh2 hv; omega)) h63
        · have h49 : c 0 r = 5 := nIe h49 (by omega) (by decide)
          have hc : csn c r v = v / 2 := by unfold csn; rw [if_neg zh9, if_neg h38, if_neg h20, if_pos h49]
          refine xv_iload_n (q := 53) rfl dX7_costsOf_52 rfl rfl ?_
          refine xv_iconst (v := nI 2) (q := 54) rfl dX7_costsOf_53 rfl ?_
          refine xv_idiv (q := 55) rfl dX7_costsOf_54 (by decide) ?_
          refine xv_as (w := nI (csn c r v)) ((pk_div (by omega) (by decide) (by decide)).trans (by rw [hc])) ?_
          refine xv_goto (t := 59) rfl dX7_costsOf_55 ?_
          refine xv_istore (q := 61) rfl dX7_costsOf_59 rfl ?_
          refine xv_iload (q := 63) rfl dX7_costsOf_61 rfl ?_
          refine xv_if_ge (q := 66) (t := 70) rfl rfl dX7_costsOf_63 (fun h63 => ?_) (fun h63 => ?_)
          · refine xv_iload (q := 72) rfl dX7_costsOf_70 rfl ?_
            refine xv_iret dX7_costsOf_72 rfl ?_
            exact xq_rfl
          · exact absurd (nI_pos' (by have := csn_le zh2 hv; omega)) h63
      · have h38 : c 0 r = 3 := nIe h38 (by omega) (by decide)
        have hc : csn c r v = v - 1 := by unfold csn; rw [if_neg zh9, if_pos h38]
        refine xv_iload_n (q := 42) rfl dX7_costsOf_41 rfl rfl ?_
        refine xv_iconst (v := nI 1) (q := 43) rfl dX7_costsOf_42 rfl ?_
        refine xv_isub (q := 44) rfl dX7_costsOf_43 ?_
        refine xv_goto (t := 59) rfl dX7_costsOf_44 ?_
        refine xv_istore (q := 61) rfl dX7_costsOf_59 rfl ?_
        refine xv_iload (q := 63) rfl dX7_costsOf_61 rfl ?_
        refine xv_if_ge (q := 66) (t := 70) rfl rfl dX7_costsOf_63 (fun h63 => ?_) (fun h63 => ?_)
        · refine xv_iload (q := 72) rfl dX7_costsOf_70 rfl ?_
          refine xv_iret dX7_costsOf_72 rfl ?_
          exact ⟨by
            rw [hc]
            cases v with
            | zero => exact absurd h63 (by decide)
            | succ v => rw [pk_sub (by omega)], rfl, rfl, rfl, rfl⟩
        · refine xv_iconst (v := nI 0) (q := 67) rfl dX7_costsOf_66 rfl ?_
          refine xv_goto (t := 72) rfl dX7_costsOf_67 ?_
          refine xv_iret dX7_costsOf_72 rfl ?_
          exact ⟨by
            rw [hc]
            cases v with
            | zero => rfl
            | succ v => exact absurd (by rw [pk_sub (by omega)]; exact nI_pos' (by omega)) h63, rfl, rfl, rfl, rfl⟩
    · have h20 : c 0 r = 4 := nIe h20 (by omega) (by decide)
      have hc : csn c r v = 2 * v + c 2 r := by unfold csn; rw [if_neg zh9, if_neg (by omega), if_pos h20]
      refine xv_iconst (v := nI 2) (q := 24) rfl dX7_costsOf_23 rfl ?_
      refine xv_iload_n (q := 25) rfl dX7_costsOf_24 rfl rfl ?_
      refine xv_imul (q := 26) rfl dX7_costsOf_25 ?_
      refine xv_as (w := nI (2 * v)) (pk_mul _ _) ?_
      refine xv_aload_n (q := 27) rfl dX7_costsOf_26 rfl rfl ?_
      refine xv_geta (q := 30) rfl dX7_costsOf_27 f_X7_32 (hg.1 _ _ rfl) (hg.2 _ _ _ rfl) ?_
      refine xv_iload_n (q := 31) rfl dX7_costsOf_30 rfl rfl ?_
      refine xv_iald (q := 32) rfl dX7_costsOf_31 (hg.1 _ _ rfl) rfl (by omega) (by decide) ?_
      refine xv_as (w := nI (c 2 r)) (hm 2 r (by decide) hr) ?_
      refine xv_iadd (q := 33) rfl dX7_costsOf_32 ?_
      refine xv_as (w := nI (csn c r v)) ((nI_add _ _).trans (by rw [hc])) ?_
      refine xv_goto (t := 59) rfl dX7_costsOf_33 ?_
      refine xv_istore (q := 61) rfl dX7_costsOf_59 rfl ?_
      refine xv_iload (q := 63) rfl dX7_costsOf_61 rfl ?_
      refine xv_if_ge (q := 66) (t := 70) rfl rfl dX7_costsOf_63 (fun h63 => ?_) (fun h63 => ?_)
      · refine xv_iload (q := 72) rfl dX7_costsOf_70 rfl ?_
        refine xv_iret dX7_costsOf_72 rfl ?_
        exact xq_rfl
      · exact absurd (nI_pos' (by have := csn_le zh2 hv; omega)) h63
  · have zh9 : c 0 r = 2 := nIe zh9 (by omega) (by decide)
    have hc : csn c r v = 2 * v := if_pos zh9
    refine xv_iconst (v := nI 2) (q := 13) rfl dX7_costsOf_12 rfl ?_
    refine xv_iload_n (q := 14) rfl dX7_costsOf_13 rfl rfl ?_
    refine xv_imul (q := 15) rfl dX7_costsOf_14 ?_
    refine xv_as (w := nI (csn c r v)) ((pk_mul _ _).trans (by rw [hc])) ?_
    refine xv_goto (t := 59) rfl dX7_costsOf_15 ?_
    refine xv_istore (q := 61) rfl dX7_costsOf_59 rfl ?_
    refine xv_iload (q := 63) rfl dX7_costsOf_61 rfl ?_
    refine xv_if_ge (q := 66) (t := 70) rfl rfl dX7_costsOf_63 (fun h63 => ?_) (fun h63 => ?_)
    · refine xv_iload (q := 72) rfl dX7_costsOf_70 rfl ?_
      refine xv_iret dX7_costsOf_72 rfl ?_
      exact xq_rfl
    · exact absurd (nI_pos' (by have := csn_le zh2 hv; omega)) h63
end MSMALL

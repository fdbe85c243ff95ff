/-! the model: who is inside, stays, bars, must step out -/
/-- the model's crew as it is tried -/
def MCw (I : XI) (n : Nat) (c : CR) (dd : Nat) : Prop := XCm I 64 (ci c) n ∧ I 61 15 = nI n ∧ n ≤ 5 ∧ I 61 7 = nI dd ∧ (dd = 1 ∨ dd = 2) ∧ wfn c n
theorem popc_up : ∀ k, k < 5 → ∀ m, m < 32 → m < 2 ^ k → popc (m ||| 2 ^ k) = popc m + 1 := by decide +kernel
theorem popc_bm (q : Nat → Bool) {k : Nat} (hk : k < 5) : popc (bm q (k + 1)) = popc (bm q k) + b01 (q k) := by
  have h := bm_lt q k
  show popc (bm q k ||| (if q k = true then 2 ^ k else 0)) = _
  cases q k with
  | true => exact popc_up k hk _ (p5 h (by omega)) h
  | false => rw [if_neg (by decide), Nat.or_zero]; rfl
theorem b1n {b : Bool} (h : ¬ nI (b01 b) = nI 1) : b = false := by cases b with | false => rfl | true => exact absurd rfl h
theorem b1e {b : Bool} (h : nI (b01 b) = nI 1) : b = true := by cases b with | true => rfl | false => exact absurd h (by decide)
theorem sh0 : ∀ r, r < 10 → nI 0 <<< (nI r &&& 31) = nI 0 := by decide +kernel
theorem bm_s (q : Nat → Bool) (k : Nat) : bm q (k + 1) = bm q k ||| (if q k = true then 2 ^ k else 0) := rfl
section MRIDE
variable {E : XE} {d : Nat} {sh : XSh} {I : XI} {R : XRf} {L : XL} {n dd : Nat} {c : CR} {P : Nat}
def inq (c : CR) (P f : Nat) : Nat → Bool := fun r => P.testBit r && (decide (c 3 r < f) && decide (f ≤ c 4 r))
theorem inq_e (hw : wfn c n) (f : Nat) : bm (inq c P f) n = sty c n P f ||| gou c n P f := by
  unfold sty gou
  rw [bm_or]
  refine bm_cong (fun i hi => ?_)
  have := (hw i hi).2.2.2.2.2.2.2
  unfold inq stp gop
  rw [Bool.eq_iff_iff]
  simp only [Bool.and_eq_true, Bool.or_eq_true, decide_eq_true_iff]
  constructor
  · rintro ⟨zh1, zh2, zh3⟩
    by_cases e : c 4 i = f
    · exact Or.inr ⟨zh1, e⟩
    · exact Or.inl ⟨zh1, zh2, by omega⟩
  · rintro (⟨zh1, zh2, zh3⟩ | ⟨zh1, zh2⟩)
    · exact ⟨zh1, zh2, by omega⟩
    · exact ⟨zh1, by omega, by omega⟩
theorem m_inside_loop (hg : XG sh R) (h : MCw I n c dd) (hP : I 61 34 = nI P) (hP32 : P < 32) {f : Nat} (hf : f < 10) : ∀ (k o : Nat), o ≤ n → n < o + k → XV E mX7_insideAt d 0 0 (xq (some (.int (nI (popc (bm (inq c P f) n))))) sh I R L) 0 0 4 [some (.ref 61), some (.int (nI f)), some (.int (nI (popc (bm (inq c P f) o)))), some (.int (nI o))] [] sh I R L := by
  intro k
  induction k with
  | zero => intro o zh1 zh2; exact absurd zh2 (by omega)
  | succ k ih =>
    intro o zh1 zh2
    obtain ⟨hm, hn, hn5, hd, hdd, hw⟩ := id h
    refine xv_iload_n (q := 5) rfl dX7_insideAt_4 rfl rfl ?_
    refine xv_aload_n (q := 6) rfl dX7_insideAt_5 rfl rfl ?_
    refine xv_geti (q := 9) rfl dX7_insideAt_6 f_X7_88 (hg.1 _ _ rfl) ?_
    rw [hn]
    refine xv_icmp_ge (q := 12) (t := 58) rfl rfl dX7_insideAt_9 (fun zh9 => ?_) (fun zh9 => ?_)
    · have zh9 := nIle zh9 (by omega) (by omega)
      obtain rfl : o = n := by omega
      refine xv_iload_n (q := 59) rfl dX7_insideAt_58 rfl rfl ?_
      refine xv_iret dX7_insideAt_59 rfl ?_
      exact xq_rfl
    · have zh9 : o < n := nInle zh9 (by omega) (by omega)
      have hfr := hw o zh9
      obtain ⟨zw0, zw1, zw2, zw3, zw4, zw5, zw6, w7⟩ := hfr
      refine xv_iload_n (q := 13) rfl dX7_insideAt_12 rfl rfl ?_
      refine xv_aload_n (q := 14) rfl dX7_insideAt_13 rfl rfl ?_
      refine xv_geti (q := 17) rfl dX7_insideAt_14 f_X7_254 (hg.1 _ _ rfl) ?_
      rw [hP]
      refine xv_iload_n (q := 18) rfl dX7_insideAt_17 rfl rfl ?_
      refine xv_ishr (q := 19) rfl dX7_insideAt_18 ?_
      refine xv_iconst (v := nI 1) (q := 20) rfl dX7_insideAt_19 rfl ?_
      refine xv_iand (q := 21) rfl dX7_insideAt_20 ?_
      refine xv_as (w := nI (b01 (P.testBit o))) (shb P hP32 o (by omega)) ?_
      refine xv_iconst (v := nI 1) (q := 22) rfl dX7_insideAt_21 rfl ?_
      refine xv_icmp_ne (q := 25) (t := 49) rfl rfl dX7_insideAt_22 (fun h22 => ?_) (fun h22 => ?_)
      · have hbit := b1n h22
        refine xv_iconst (v := nI 0) (q := 50) rfl dX7_insideAt_49 rfl ?_
        refine xv_iadd (q := 51) rfl dX7_insideAt_50 ?_
        refine xv_istore_n (q := 52) rfl dX7_insideAt_51 rfl rfl ?_
        refine xv_iinc (q := 55) (v := nI 1) rfl dX7_insideAt_52 rfl rfl ?_
        have zhq : inq c P f o = false := by unfold inq; rw [hbit]; rfl
        refine xv_goto (t := 4) rfl dX7_insideAt_55 ?_
        have zhz := ih (o + 1) (by omega) (by omega)
        rw [popc_bm _ (by omega), zhq] at zhz
        rw [nI_add, nI_add]
        exact zhz
      · have hbit := b1e h22
        refine xv_aload_n (q := 26) rfl dX7_insideAt_25 rfl rfl ?_
        refine xv_geta (q := 29) rfl dX7_insideAt_26 f_X7_35 (hg.1 _ _ rfl) (hg.2 _ _ _ rfl) ?_
        refine xv_iload_n (q := 30) rfl dX7_insideAt_29 rfl rfl ?_
        refine xv_iald (q := 31) rfl dX7_insideAt_30 (hg.1 _ _ rfl) rfl (by omega) (by decide) ?_
        refine xv_as (w := nI (c 3 o)) (hm 3 o (by decide) zh9) ?_
        refine xv_iload_n (q := 32) rfl dX7_insideAt_31 rfl rfl ?_
        refine xv_icmp_ge (q := 35) (t := 49) rfl rfl dX7_insideAt_32 (fun h32 => ?_) (fun h32 => ?_)
        · have h32 : f ≤ c 3 o := nIle h32 (by omega) (by omega)
          refine xv_iconst (v := nI 0) (q := 50) rfl dX7_insideAt_49 rfl ?_
          refine xv_iadd (q := 51) rfl dX7_insideAt_50 ?_
          refine xv_istore_n (q := 52) rfl dX7_insideAt_51 rfl rfl ?_
          refine xv_iinc (q := 55) (v := nI 1) rfl dX7_insideAt_52 rfl rfl ?_
          have zhq : inq c P f o = false := by unfold inq; rw [decide_eq_false (show ¬ c 3 o < f by omega), Bool.false_and, Bool.and_false]
          refine xv_goto (t := 4) rfl dX7_insideAt_55 ?_
          have zhz := ih (o + 1) (by omega) (by omega)
          rw [popc_bm _ (by omega), zhq] at zhz
          rw [nI_add, nI_add]
          exact zhz
        · have h32 : c 3 o < f := nInle h32 (by omega) (by omega)
          refine xv_aload_n (q := 36) rfl dX7_insideAt_35 rfl rfl ?_
          refine xv_geta (q := 39) rfl dX7_insideAt_36 f_X7_38 (hg.1 _ _ rfl) (hg.2 _ _ _ rfl) ?_
          refine xv_iload_n (q := 40) rfl dX7_insideAt_39 rfl rfl ?_
          refine xv_iald (q := 41) rfl dX7_insideAt_40 (hg.1 _ _ rfl) rfl (by omega) (by decide) ?_
          refine xv_as (w := nI (c 4 o)) (hm 4 o (by decide) zh9) ?_
          refine xv_iload_n (q := 42) rfl dX7_insideAt_41 rfl rfl ?_
          refine xv_icmp_lt (q := 45) (t := 49) rfl rfl dX7_insideAt_42 (fun h42 => ?_) (fun h42 => ?_)
          · have h42 : c 4 o < f := nIlt h42 (by omega) (by omega)
            refine xv_iconst (v := nI 0) (q := 50) rfl dX7_insideAt_49 rfl ?_
            refine xv_iadd (q := 51) rfl dX7_insideAt_50 ?_
            refine xv_istore_n (q := 52) rfl dX7_insideAt_51 rfl rfl ?_
            refine xv_iinc (q := 55) (v := nI 1) rfl dX7_insideAt_52 rfl rfl ?_
            have zhq : inq c P f o = false := by unfold inq; rw [decide_eq_false (show ¬ f ≤ c 4 o by omega), Bool.and_false, Bool.and_false]
            refine xv_goto (t := 4) rfl dX7_insideAt_55 ?_
            have zhz := ih (o + 1) (by omega) (by omega)
            rw [popc_bm _ (by omega), zhq] at zhz
            rw [nI_add, nI_add]
            exact zhz
          · have h42 : f ≤ c 4 o := nInlt h42 (by omega) (by omega)
            refine xv_iconst (v := nI 1) (q := 46) rfl dX7_insideAt_45 rfl ?_
            refine xv_goto (t := 50) rfl dX7_insideAt_46 ?_
            refine xv_iadd (q := 51) rfl dX7_insideAt_50 ?_
            refine xv_istore_n (q := 52) rfl dX7_insideAt_51 rfl rfl ?_
            refine xv_iinc (q := 55) (v := nI 1) rfl dX7_insideAt_52 rfl rfl ?_
            have zhq : inq c P f o = true := by unfold inq; rw [hbit, decide_eq_true h32, decide_eq_true h42]; rfl
            refine xv_goto (t := 4) rfl dX7_insideAt_55 ?_
            have zhz := ih (o + 1) (by omega) (by omega)
            rw [popc_bm _ (by omega), zhq] at zhz
            rw [nI_add, nI_add]
            exact zhz
theorem m_inside (hg : XG sh R) (h : MCw I n c dd) (hP : I 61 34 = nI P) (hP32 : P < 32) {f : Nat} (hf : f < 10) : XC E mX7_insideAt d 0 0 [.ref 61, .int (nI f)] sh I R L (xq (some (.int (nI (insd c n P f)))) sh I R L) := by
  have zhz := m_inside_loop (E := E) (d := d) (L := L) hg h hP hP32 hf (n + 1) 0 (by omega) (by omega)
  rw [inq_e h.2.2.2.2.2, show popc (bm (inq c P f) 0) = 0 from popc_0] at zhz
  refine XC.of (by decide) rfl rfl ?_
  refine xv_iconst (v := nI 0) (q := 1) rfl dX7_insideAt_0 rfl ?_
  refine xv_istore_n (q := 2) rfl dX7_insideAt_1 rfl rfl ?_
  refine xv_iconst (v := nI 0) (q := 3) rfl dX7_insideAt_2 rfl ?_
  refine xv_istore_n (q := 4) rfl dX7_insideAt_3 rfl rfl ?_
  exact zhz
theorem m_stay_loop (hg : XG sh R) (h : MCw I n c dd) (hP : I 61 34 = nI P) (hP32 : P < 32) {f : Nat} (hf : f < 10) : ∀ (k o : Nat), o ≤ n → n < o + k → XV E mX7_stayingAt d 0 0 (xq (some (.int (nI (sty c n P f)))) sh I R L) 0 0 4 [some (.ref 61), some (.int (nI f)), some (.int (nI (bm (stp c P f) o))), some (.int (nI o))] [] sh I R L := by
  intro k
  induction k with
  | zero => intro o zh1 zh2; exact absurd zh2 (by omega)
  | succ k ih =>
    intro o zh1 zh2
    obtain ⟨hm, hn, hn5, hd, hdd, hw⟩ := id h
    refine xv_iload_n (q := 5) rfl dX7_stayingAt_4 rfl rfl ?_
    refine xv_aload_n (q := 6) rfl dX7_stayingAt_5 rfl rfl ?_
    refine xv_geti (q := 9) rfl dX7_stayingAt_6 f_X7_88 (hg.1 _ _ rfl) ?_
    rw [hn]
    refine xv_icmp_ge (q := 12) (t := 60) rfl rfl dX7_stayingAt_9 (fun zh9 => ?_) (fun zh9 => ?_)
    · have zh9 := nIle zh9 (by omega) (by omega)
      obtain rfl : o = n := by omega
      refine xv_iload_n (q := 61) rfl dX7_stayingAt_60 rfl rfl ?_
      refine xv_iret dX7_stayingAt_61 rfl ?_
      exact xq_rfl
    · have zh9 : o < n := nInle zh9 (by omega) (by omega)
      have hfr := hw o zh9
      obtain ⟨zw0, zw1, zw2, zw3, zw4, zw5, zw6, w7⟩ := hfr
      refine xv_iload_n (q := 13) rfl dX7_stayingAt_12 rfl rfl ?_
      refine xv_aload_n (q := 14) rfl dX7_stayingAt_13 rfl rfl ?_
      refine xv_geti (q := 17) rfl dX7_stayingAt_14 f_X7_254 (hg.1 _ _ rfl) ?_
      rw [hP]
      refine xv_iload_n (q := 18) rfl dX7_stayingAt_17 rfl rfl ?_
      refine xv_ishr (q := 19) rfl dX7_stayingAt_18 ?_
      refine xv_iconst (v := nI 1) (q := 20) rfl dX7_stayingAt_19 rfl ?_
      refine xv_iand (q := 21) rfl dX7_stayingAt_20 ?_
      refine xv_as (w := nI (b01 (P.testBit o))) (shb P hP32 o (by omega)) ?_
      refine xv_iconst (v := nI 1) (q := 22) rfl dX7_stayingAt_21 rfl ?_
      refine xv_icmp_ne (q := 25) (t := 49) rfl rfl dX7_stayingAt_22 (fun h22 => ?_) (fun h22 => ?_)
      · have hbit := b1n h22
        refine xv_iconst (v := nI 0) (q := 50) rfl dX7_stayingAt_49 rfl ?_
        refine xv_iload_n (q := 51) rfl dX7_stayingAt_50 rfl rfl ?_
        refine xv_ishl (q := 52) rfl dX7_stayingAt_51 ?_
        refine xv_as (w := nI 0) (sh0 o (by omega)) ?_
        refine xv_ior (q := 53) rfl dX7_stayingAt_52 ?_
        refine xv_as (w := nI (bm (stp c P f) o ||| 0)) (nI_or _ _) ?_
        refine xv_istore_n (q := 54) rfl dX7_stayingAt_53 rfl rfl ?_
        refine xv_iinc (q := 57) (v := nI 1) rfl dX7_stayingAt_54 rfl rfl ?_
        have zhq : stp c P f o = false := by unfold stp; rw [hbit]; rfl
        refine xv_goto (t := 4) rfl dX7_stayingAt_57 ?_
        have zhz := ih (o + 1) (by omega) (by omega)
        rw [bm_s, zhq] at zhz
        rw [nI_add]
        exact zhz
      · have hbit := b1e h22
        refine xv_aload_n (q := 26) rfl dX7_stayingAt_25 rfl rfl ?_
        refine xv_geta (q := 29) rfl dX7_stayingAt_26 f_X7_35 (hg.1 _ _ rfl) (hg.2 _ _ _ rfl) ?_
        refine xv_iload_n (q := 30) rfl dX7_stayingAt_29 rfl rfl ?_
        refine xv_iald (q := 31) rfl dX7_stayingAt_30 (hg.1 _ _ rfl) rfl (by omega) (by decide) ?_
        refine xv_as (w := nI (c 3 o)) (hm 3 o (by decide) zh9) ?_
        refine xv_iload_n (q := 32) rfl dX7_stayingAt_31 rfl rfl ?_
        refine xv_icmp_ge (q := 35) (t := 49) rfl rfl dX7_stayingAt_32 (fun h32 => ?_) (fun h32 => ?_)
        · have h32 : f ≤ c 3 o := nIle h32 (by omega) (by omega)
          refine xv_iconst (v := nI 0) (q := 50) rfl dX7_stayingAt_49 rfl ?_
          refine xv_iload_n (q := 51) rfl dX7_stayingAt_50 rfl rfl ?_
          refine xv_ishl (q := 52) rfl dX7_stayingAt_51 ?_
          refine xv_as (w := nI 0) (sh0 o (by omega)) ?_
          refine xv_ior (q := 53) rfl dX7_stayingAt_52 ?_
          refine xv_as (w := nI (bm (stp c P f) o ||| 0)) (nI_or _ _) ?_
          refine xv_istore_n (q := 54) rfl dX7_stayingAt_53 rfl rfl ?_
          refine xv_iinc (q := 57) (v := nI 1) rfl dX7_stayingAt_54 rfl rfl ?_
          have zhq : stp c P f o = false := by unfold stp; rw [decide_eq_false (show ¬ c 3 o < f by omega), Bool.false_and, Bool.and_false]
          refine xv_goto (t := 4) rfl dX7_stayingAt_57 ?_
          have zhz := ih (o + 1) (by omega) (by omega)
          rw [bm_s, zhq] at zhz
          rw [nI_add]
          exact zhz
        · have h32 : c 3 o < f := nInle h32 (by omega) (by omega)
          refine xv_aload_n (q := 36) rfl dX7_stayingAt_35 rfl rfl ?_
          refine xv_geta (q := 39) rfl dX7_stayingAt_36 f_X7_38 (hg.1 _ _ rfl) (hg.2 _ _ _ rfl) ?_
          refine xv_iload_n (q := 40) rfl dX7_stayingAt_39 rfl rfl ?_
          refine xv_iald (q := 41) rfl dX7_stayingAt_40 (hg.1 _ _ rfl) rfl (by omega) (by decide) ?_
          refine xv_as (w := nI (c 4 o)) (hm 4 o (by decide) zh9) ?_
          refine xv_iload_n (q := 42) rfl dX7_stayingAt_41 rfl rfl ?_
          refine xv_icmp_le (q := 45) (t := 49) rfl rfl dX7_stayingAt_42 (fun h42 => ?_) (fun h42 => ?_)
          · have h42 : c 4 o ≤ f := nIle h42 (by omega) (by omega)
            refine xv_iconst (v := nI 0) (q := 50) rfl dX7_stayingAt_49 rfl ?_
            refine xv_iload_n (q := 51) rfl dX7_stayingAt_50 rfl rfl ?_
            refine xv_ishl (q := 52) rfl dX7_stayingAt_51 ?_
            refine xv_as (w := nI 0) (sh0 o (by omega)) ?_
            refine xv_ior (q := 53) rfl dX7_stayingAt_52 ?_
            refine xv_as (w := nI (bm (stp c P f) o ||| 0)) (nI_or _ _) ?_
            refine xv_istore_n (q := 54) rfl dX7_stayingAt_53 rfl rfl ?_
            refine xv_iinc (q := 57) (v := nI 1) rfl dX7_stayingAt_54 rfl rfl ?_
            have zhq : stp c P f o = false := by unfold stp; rw [decide_eq_false (show ¬ f < c 4 o by omega), Bool.and_false, Bool.and_false]
            refine xv_goto (t := 4) rfl dX7_stayingAt_57 ?_
            have zhz := ih (o + 1) (by omega) (by omega)
            rw [bm_s, zhq] at zhz
            rw [nI_add]
            exact zhz
          · have h42 : f < c 4 o := nInle h42 (by omega) (by omega)
            refine xv_iconst (v := nI 1) (q := 46) rfl dX7_stayingAt_45 rfl ?_
            refine xv_goto (t := 50) rfl dX7_stayingAt_46 ?_
            refine xv_iload_n (q := 51) rfl dX7_stayingAt_50 rfl rfl ?_
            refine xv_ishl (q := 52) rfl dX7_stayingAt_51 ?_
            refine xv_as (w := nI (2 ^ o)) (sh1 o (by omega)) ?_
            refine xv_ior (q := 53) rfl dX7_stayingAt_52 ?_
            refine xv_as (w := nI (bm (stp c P f) o ||| 2 ^ o)) (nI_or _ _) ?_
            refine xv_istore_n (q := 54) rfl dX7_stayingAt_53 rfl rfl ?_
            refine xv_iinc (q := 57) (v := nI 1) rfl dX7_stayingAt_54 rfl rfl ?_
            have zhq : stp c P f o = true := by unfold stp; rw [hbit, decide_eq_true h32, decide_eq_true h42]; rfl
            refine xv_goto (t := 4) rfl dX7_stayingAt_57 ?_
            have zhz := ih (o + 1) (by omega) (by omega)
            rw [bm_s, zhq] at zhz
            rw [nI_add]
            exact zhz
theorem bar_w {b : Bool} {r o : Nat} (h : c 5 o % 2 = c 5 r % 2) (zh2 : if b = true then c 5 o / 2 ≤ c 5 r / 2 else c 5 r / 2 ≤ c 5 o / 2) : bar c b o r = false := by
  unfold bar
  cases b with
  | true =>
    have zh2 : c 5 o / 2 ≤ c 5 r / 2 := zh2
    rw [if_pos rfl, decide_eq_false (show ¬ c 5 r < c 5 o by omega), Bool.false_and, Bool.and_false]
  | false =>
    have zh2 : c 5 r / 2 ≤ c 5 o / 2 := zh2
    rw [if_neg (by decide), decide_eq_false (show ¬ c 5 o < c 5 r by omega), Bool.false_and, Bool.and_false]
theorem bar_t {b : Bool} {r o : Nat} (h : lts (ci c) o (nI (c 2 r)) = true) : bar c b o r = false := by
  unfold bar
  rw [h, Bool.not_true, Bool.and_false, Bool.and_false]
theorem bar_y {b : Bool} {r o : Nat} (h : c 5 o % 2 = c 5 r % 2) (zh2 : ¬ if b = true then c 5 o / 2 ≤ c 5 r / 2 else c 5 r / 2 ≤ c 5 o / 2) (zh3 : lts (ci c) o (nI (c 2 r)) = false) : bar c b o r = true := by
  unfold bar
  rw [zh3, decide_eq_true h]
  cases b with
  | true =>
    have zh2 : ¬ c 5 o / 2 ≤ c 5 r / 2 := zh2
    rw [if_pos rfl, decide_eq_true (show c 5 r < c 5 o by omega)]; rfl
  | false =>
    have zh2 : ¬ c 5 r / 2 ≤ c 5 o / 2 := zh2
    rw [if_neg (by decide), decide_eq_true (show c 5 o < c 5 r by omega)]; rfl
theorem m_stay (hg : XG sh R) (h : MCw I n c dd) (hP : I 61 34 = nI P) (hP32 : P < 32) {f : Nat} (hf : f < 10) : XC E mX7_stayingAt d 0 0 [.ref 61, .int (nI f)] sh I R L (xq (some (.int (nI (sty c n P f)))) sh I R L) := by
  refine XC.of (by decide) rfl rfl ?_
  refine xv_iconst (v := nI 0) (q := 1) rfl dX7_stayingAt_0 rfl ?_
  refine xv_istore_n (q := 2) rfl dX7_stayingAt_1 rfl rfl ?_
  refine xv_iconst (v := nI 0) (q := 3) rfl dX7_stayingAt_2 rfl ?_
  refine xv_istore_n (q := 4) rfl dX7_stayingAt_3 rfl rfl ?_
  exact m_stay_loop hg h hP hP32 hf (n + 1) 0 (by omega) (by omega)
theorem way0 : ∀ a, a < 3 → ∀ b, b < 3 → (-1 * (nI a - nI b) ≤ 0 ↔ b ≤ a) := by decide +kernel
theorem way1 : ∀ a, a < 3 → ∀ b, b < 3 → (nI 1 * (nI a - nI b) ≤ 0 ↔ a ≤ b) := by decide +kernel
def wayI (b : Bool) : Int32 := if b = true then nI 1 else -1
theorem way_b (b : Bool) {x y : Nat} (zhx : x < 3) (zhy : y < 3) : wayI b * (nI x - nI y) ≤ 0 ↔ (if b = true then x ≤ y else y ≤ x) := by
  cases b with
  | true => exact way1 x zhx y zhy
  | false => exact way0 x zhx y zhy
def brq (c : CR) (b : Bool) (r s : Nat) : Nat → Bool := fun o => bar c b o r && s.testBit o
theorem brq_e {b : Bool} {r s : Nat} (zhs : s < 2 ^ n) : bm (brq c b r s) n = brs c b r n &&& s := by
  symm
  refine bm_of (Nat.lt_of_le_of_lt Nat.and_le_right zhs) (fun i hi => ?_)
  unfold brs brq
  rw [Nat.testBit_and, bm_bit, decide_eq_true hi, Bool.true_and]
theorem m_bar_loop (hg : XG sh R) (h : MCw I n c dd) {b : Bool} {r s : Nat} (hr : r < n) (zhs : s < 32) : ∀ (k o : Nat) (l6 : Option Value), o ≤ n → n < o + k → XV E mX7_barring (d + 1) 0 0 (xq (some (.int (nI (bm (brq c b r s) n)))) sh I R L) 0 0 6 [some (.ref 61), some (.int (nI r)), some (.int (nI s)), some (.int (wayI b)), some (.int (nI (bm (brq c b r s) o))), some (.int (nI o)), l6] [] sh I R L := by
  intro k
  induction k with
  | zero => intro o l6 zh1 zh2; exact absurd zh2 (by omega)
  | succ k ih =>
    intro o l6 zh1 zh2
    obtain ⟨hm, hn, hn5, hd, hdd, hw⟩ := id h
    have hcr := (hw r hr).2.2.2.2.2.1
    refine xv_iload (q := 8) rfl dX7_barring_6 rfl ?_
    refine xv_aload_n (q := 9) rfl dX7_barring_8 rfl rfl ?_
    refine xv_geti (q := 12) rfl dX7_barring_9 f_X7_88 (hg.1 _ _ rfl) ?_
    rw [hn]
    refine xv_icmp_ge (q := 15) (t := 109) rfl rfl dX7_barring_12 (fun h12 => ?_) (fun h12 => ?_)
    · have h12 := nIle h12 (by omega) (by omega)
      obtain rfl : o = n := by omega
      refine xv_iload (q := 111) rfl dX7_barring_109 rfl ?_
      refine xv_iret dX7_barring_111 rfl ?_
      exact xq_rfl
    · have h12 : o < n := nInle h12 (by omega) (by omega)
      obtain ⟨zw0, zw1, zw2, zw3, zw4, zw5, zw6, w7⟩ := hw o h12
      refine xv_iload_n (q := 16) rfl dX7_barring_15 rfl rfl ?_
      refine xv_iload (q := 18) rfl dX7_barring_16 rfl ?_
      refine xv_ishr (q := 19) rfl dX7_barring_18 ?_
      refine xv_iconst (v := nI 1) (q := 20) rfl dX7_barring_19 rfl ?_
      refine xv_iand (q := 21) rfl dX7_barring_20 ?_
      refine xv_as (w := nI (b01 (s.testBit o))) (shb s zhs o (by omega)) ?_
      refine xv_iconst (v := nI 1) (q := 22) rfl dX7_barring_21 rfl ?_
      refine xv_icmp_ne (q := 25) (t := 82) rfl rfl dX7_barring_22 (fun h22 => ?_) (fun h22 => ?_)
      · have hbit := b1n h22
        refine xv_iconst (v := nI 0) (q := 83) rfl dX7_barring_82 rfl ?_
        refine xv_istore (q := 85) rfl dX7_barring_83 rfl ?_
        refine xv_iload (q := 87) rfl dX7_barring_85 rfl ?_
        refine xv_iload (q := 89) rfl dX7_barring_87 rfl ?_
        refine xv_if_eq (q := 92) (t := 96) rfl rfl dX7_barring_89 (fun h89 => ?_) (fun h89 => ?_)
        · refine xv_iconst (v := nI 0) (q := 97) rfl dX7_barring_96 rfl ?_
          refine xv_iload (q := 99) rfl dX7_barring_97 rfl ?_
          refine xv_ishl (q := 100) rfl dX7_barring_99 ?_
          refine xv_as (w := nI 0) (sh0 o (by omega)) ?_
          refine xv_ior (q := 101) rfl dX7_barring_100 ?_
          refine xv_as (w := nI (bm (brq c b r s) o ||| 0)) (nI_or _ _) ?_
          refine xv_istore (q := 103) rfl dX7_barring_101 rfl ?_
          refine xv_iinc (q := 106) (v := nI 1) rfl dX7_barring_103 rfl rfl ?_
          have zhq : brq c b r s o = false := by unfold brq; rw [hbit, Bool.and_false]
          refine xv_goto (t := 6) rfl dX7_barring_106 ?_
          have zhz := fun l6 => ih (o + 1) l6 (by omega) (by omega)
          rw [bm_s, zhq] at zhz
          rw [nI_add]
          exact zhz _
        · exact absurd rfl h89
      · have hbit := b1e h22
        refine xv_aload_n (q := 26) rfl dX7_barring_25 rfl rfl ?_
        refine xv_geta (q := 29) rfl dX7_barring_26 f_X7_41 (hg.1 _ _ rfl) (hg.2 _ _ _ rfl) ?_
        refine xv_iload (q := 31) rfl dX7_barring_29 rfl ?_
        refine xv_iald (q := 32) rfl dX7_barring_31 (hg.1 _ _ rfl) rfl (by omega) (by decide) ?_
        refine xv_as (w := nI (c 5 o)) (hm 5 o (by decide) h12) ?_
        refine xv_iconst (v := nI 2) (q := 33) rfl dX7_barring_32 rfl ?_
        refine xv_irem (q := 34) rfl dX7_barring_33 (by decide) ?_
        refine xv_as (w := nI (c 5 o % 2)) (pk_rem (by omega) (by decide) (by decide)) ?_
        refine xv_aload_n (q := 35) rfl dX7_barring_34 rfl rfl ?_
        refine xv_geta (q := 38) rfl dX7_barring_35 f_X7_41 (hg.1 _ _ rfl) (hg.2 _ _ _ rfl) ?_
        refine xv_iload_n (q := 39) rfl dX7_barring_38 rfl rfl ?_
        refine xv_iald (q := 40) rfl dX7_barring_39 (hg.1 _ _ rfl) rfl (by omega) (by decide) ?_
        refine xv_as (w := nI (c 5 r)) (hm 5 r (by decide) hr) ?_
        refine xv_iconst (v := nI 2) (q := 41) rfl dX7_barring_40 rfl ?_
        refine xv_irem (q := 42) rfl dX7_barring_41 (by decide) ?_
        refine xv_as (w := nI (c 5 r % 2)) (pk_rem (by omega) (by decide) (by decide)) ?_
        refine xv_icmp_ne (q := 45) (t := 82) rfl rfl dX7_barring_42 (fun h42 => ?_) (fun h42 => ?_)
        · have h42 : ¬ c 5 o % 2 = c 5 r % 2 := fun z => h42 (by rw [z])
          refine xv_iconst (v := nI 0) (q := 83) rfl dX7_barring_82 rfl ?_
          refine xv_istore (q := 85) rfl dX7_barring_83 rfl ?_
          refine xv_iload (q := 87) rfl dX7_barring_85 rfl ?_
          refine xv_iload (q := 89) rfl dX7_barring_87 rfl ?_
          refine xv_if_eq (q := 92) (t := 96) rfl rfl dX7_barring_89 (fun h89 => ?_) (fun h89 => ?_)
          · refine xv_iconst (v := nI 0) (q := 97) rfl dX7_barring_96 rfl ?_
            refine xv_iload (q := 99) rfl dX7_barring_97 rfl ?_
            refine xv_ishl (q := 100) rfl dX7_barring_99 ?_
            refine xv_as (w := nI 0) (sh0 o (by omega)) ?_
            refine xv_ior (q := 101) rfl dX7_barring_100 ?_
            refine xv_as (w := nI (bm (brq c b r s) o ||| 0)) (nI_or _ _) ?_
            refine xv_istore (q := 103) rfl dX7_barring_101 rfl ?_
            refine xv_iinc (q := 106) (v := nI 1) rfl dX7_barring_103 rfl rfl ?_
            have zhq : brq c b r s o = false := by unfold brq; rw [bar_p h42, Bool.false_and]
            refine xv_goto (t := 6) rfl dX7_barring_106 ?_
            have zhz := fun l6 => ih (o + 1) l6 (by omega) (by omega)
            rw [bm_s, zhq] at zhz
            rw [nI_add]
            exact zhz _
          · exact absurd rfl h89
        · have h42 : c 5 o % 2 = c 5 r % 2 := (nI_eq (by omega) (by omega)).mp h42
          refine xv_iload_n (q := 46) rfl dX7_barring_45 rfl rfl ?_
          refine xv_aload_n (q := 47) rfl dX7_barring_46 rfl rfl ?_
          refine xv_geta (q := 50) rfl dX7_barring_47 f_X7_41 (hg.1 _ _ rfl) (hg.2 _ _ _ rfl) ?_
          refine xv_iload (q := 52) rfl dX7_barring_50 rfl ?_
          refine xv_iald (q := 53) rfl dX7_barring_52 (hg.1 _ _ rfl) rfl (by omega) (by decide) ?_
          refine xv_as (w := nI (c 5 o)) (hm 5 o (by decide) h12) ?_
          refine xv_iconst (v := nI 2) (q := 54) rfl dX7_barring_53 rfl ?_
          refine xv_idiv (q := 55) rfl dX7_barring_54 (by decide) ?_
          refine xv_as (w := nI (c 5 o / 2)) (pk_div (by omega) (by decide) (by decide)) ?_
          refine xv_aload_n (q := 56) rfl dX7_barring_55 rfl rfl ?_
          refine xv_geta (q := 59) rfl dX7_barring_56 f_X7_41 (hg.1 _ _ rfl) (hg.2 _ _ _ rfl) ?_
          refine xv_iload_n (q := 60) rfl dX7_barring_59 rfl rfl ?_
          refine xv_iald (q := 61) rfl dX7_barring_60 (hg.1 _ _ rfl) rfl (by omega) (by decide) ?_
          refine xv_as (w := nI (c 5 r)) (hm 5 r (by decide) hr) ?_
          refine xv_iconst (v := nI 2) (q := 62) rfl dX7_barring_61 rfl ?_
          refine xv_idiv (q := 63) rfl dX7_barring_62 (by decide) ?_
          refine xv_as (w := nI (c 5 r / 2)) (pk_div (by omega) (by decide) (by decide)) ?_
          refine xv_isub (q := 64) rfl dX7_barring_63 ?_
          refine xv_imul (q := 65) rfl dX7_barring_64 ?_
          refine xv_if_le (q := 68) (t := 82) rfl rfl dX7_barring_65 (fun h65 => ?_) (fun h65 => ?_)
          · have h65 := (way_b b (by omega) (by omega)).mp h65
            refine xv_iconst (v := nI 0) (q := 83) rfl dX7_barring_82 rfl ?_
            refine xv_istore (q := 85) rfl dX7_barring_83 rfl ?_
            refine xv_iload (q := 87) rfl dX7_barring_85 rfl ?_
            refine xv_iload (q := 89) rfl dX7_barring_87 rfl ?_
            refine xv_if_eq (q := 92) (t := 96) rfl rfl dX7_barring_89 (fun h89 => ?_) (fun h89 => ?_)
            · refine xv_iconst (v := nI 0) (q := 97) rfl dX7_barring_96 rfl ?_
              refine xv_iload (q := 99) rfl dX7_barring_97 rfl ?_
              refine xv_ishl (q := 100) rfl dX7_barring_99 ?_
              refine xv_as (w := nI 0) (sh0 o (by omega)) ?_
              refine xv_ior (q := 101) rfl dX7_barring_100 ?_
              refine xv_as (w := nI (bm (brq c b r s) o ||| 0)) (nI_or _ _) ?_
              refine xv_istore (q := 103) rfl dX7_barring_101 rfl ?_
              refine xv_iinc (q := 106) (v := nI 1) rfl dX7_barring_103 rfl rfl ?_
              have zhq : brq c b r s o = false := by unfold brq; rw [show bar c b o r = false from bar_w h42 h65, Bool.false_and]
              refine xv_goto (t := 6) rfl dX7_barring_106 ?_
              have zhz := fun l6 => ih (o + 1) l6 (by omega) (by omega)
              rw [bm_s, zhq] at zhz
              rw [nI_add]
              exact zhz _
            · exact absurd rfl h89
          · have h65 := mt (way_b b (by omega) (by omega)).mpr h65
            refine xv_aload_n (q := 69) rfl dX7_barring_68 rfl rfl ?_
            refine xv_iload (q := 71) rfl dX7_barring_69 rfl ?_
            refine xv_iload_n (q := 72) rfl dX7_barring_71 rfl rfl ?_
            refine xv_cV2 (z := mX7_doesLet) (q := 75) rfl dX7_barring_72 l_X7_124 gX7_doesLet (hg.1 _ _ rfl) rfl rfl rfl (m_lets (d := d) hg hm hn5 hw h12 hr) (by omega) ?_
            refine xv_if_ne (q := 78) (t := 82) rfl rfl dX7_barring_75 (fun h75 => ?_) (fun h75 => ?_)
            · have h75 := bIn h75
              refine xv_iconst (v := nI 0) (q := 83) rfl dX7_barring_82 rfl ?_
              refine xv_istore (q := 85) rfl dX7_barring_83 rfl ?_
              refine xv_iload (q := 87) rfl dX7_barring_85 rfl ?_
              refine xv_iload (q := 89) rfl dX7_barring_87 rfl ?_
              refine xv_if_eq (q := 92) (t := 96) rfl rfl dX7_barring_89 (fun h89 => ?_) (fun h89 => ?_)
              · refine xv_iconst (v := nI 0) (q := 97) rfl dX7_barring_96 rfl ?_
                refine xv_iload (q := 99) rfl dX7_barring_97 rfl ?_
                refine xv_ishl (q := 100) rfl dX7_barring_99 ?_
                refine xv_as (w := nI 0) (sh0 o (by omega)) ?_
                refine xv_ior (q := 101) rfl dX7_barring_100 ?_
                refine xv_as (w := nI (bm (brq c b r s) o ||| 0)) (nI_or _ _) ?_
                refine xv_istore (q := 103) rfl dX7_barring_101 rfl ?_
                refine xv_iinc (q := 106) (v := nI 1) rfl dX7_barring_103 rfl rfl ?_
                have zhq : brq c b r s o = false := by unfold brq; rw [show bar c b o r = false from bar_t h75, Bool.false_and]
                refine xv_goto (t := 6) rfl dX7_barring_106 ?_
                have zhz := fun l6 => ih (o + 1) l6 (by omega) (by omega)
                rw [bm_s, zhq] at zhz
                rw [nI_add]
                exact zhz _
              · exact absurd rfl h89
            · have h75 := bIz h75
              refine xv_iconst (v := nI 1) (q := 79) rfl dX7_barring_78 rfl ?_
              refine xv_goto (t := 83) rfl dX7_barring_79 ?_
              refine xv_istore (q := 85) rfl dX7_barring_83 rfl ?_
              refine xv_iload (q := 87) rfl dX7_barring_85 rfl ?_
              refine xv_iload (q := 89) rfl dX7_barring_87 rfl ?_
              refine xv_if_eq (q := 92) (t := 96) rfl rfl dX7_barring_89 (fun h89 => ?_) (fun h89 => ?_)
              · exact absurd h89 (by decide)
              · refine xv_iconst (v := nI 1) (q := 93) rfl dX7_barring_92 rfl ?_
                refine xv_goto (t := 97) rfl dX7_barring_93 ?_
                refine xv_iload (q := 99) rfl dX7_barring_97 rfl ?_
                refine xv_ishl (q := 100) rfl dX7_barring_99 ?_
                refine xv_as (w := nI (2 ^ o)) (sh1 o (by omega)) ?_
                refine xv_ior (q := 101) rfl dX7_barring_100 ?_
                refine xv_as (w := nI (bm (brq c b r s) o ||| 2 ^ o)) (nI_or _ _) ?_
                refine xv_istore (q := 103) rfl dX7_barring_101 rfl ?_
                refine xv_iinc (q := 106) (v := nI 1) rfl dX7_barring_103 rfl rfl ?_
                have zhq : brq c b r s o = true := by unfold brq; rw [show bar c b o r = true from bar_y h42 h65 h75, hbit]; rfl
                refine xv_goto (t := 6) rfl dX7_barring_106 ?_
                have zhz := fun l6 => ih (o + 1) l6 (by omega) (by omega)
                rw [bm_s, zhq] at zhz
                rw [nI_add]
                exact zhz _
theorem m_bar (hg : XG sh R) (h : MCw I n c dd) {b : Bool} {r s : Nat} (hr : r < n) (zhs : s < 2 ^ n) : XC E mX7_barring (d + 1) 0 0 [.ref 61, .int (nI r), .int (nI s), .int (wayI b)] sh I R L (xq (some (.int (nI (brs c b r n &&& s)))) sh I R L) := by
  have zhz := m_bar_loop (E := E) (d := d) (L := L) (b := b) hg h hr (p5 zhs h.2.2.1) (n + 1) 0 none (by omega) (by omega)
  rw [brq_e zhs] at zhz
  refine XC.of (by decide) rfl rfl ?_
  refine xv_iconst (v := nI 0) (q := 1) rfl dX7_barring_0 rfl ?_
  refine xv_istore (q := 3) rfl dX7_barring_1 rfl ?_
  refine xv_iconst (v := nI 0) (q := 4) rfl dX7_barring_3 rfl ?_
  refine xv_istore (q := 6) rfl dX7_barring_4 rfl ?_
  exact zhz
theorem m_must (hg : XG sh R) (h : MCw I n c dd) {r s : Nat} (hr : r < n) (zhs : s < 2 ^ n) : XC E mX7_mustFor (d + 2) 0 0 [.ref 61, .int (nI r), .int (nI s)] sh I R L (xq (some (.int (nI (mus c n dd r s)))) sh I R L) := by
  obtain ⟨hm, hn, hn5, hd, hdd, hw⟩ := id h
  have hb0 := p5 (Nat.lt_of_le_of_lt (Nat.and_le_right (n := brs c false r n)) zhs) hn5
  have hb1 := p5 (Nat.lt_of_le_of_lt (Nat.and_le_right (n := brs c true r n)) zhs) hn5
  refine XC.of (by decide) rfl rfl ?_
  refine xv_aload_n (q := 1) rfl dX7_mustFor_0 rfl rfl ?_
  refine xv_iload_n (q := 2) rfl dX7_mustFor_1 rfl rfl ?_
  refine xv_iload_n (q := 3) rfl dX7_mustFor_2 rfl rfl ?_
  refine xv_iconst (v := (-1)) (q := 4) rfl dX7_mustFor_3 rfl ?_
  refine xv_cV3 (z := mX7_barring) (q := 7) rfl dX7_mustFor_4 l_X7_267 gX7_barring (hg.1 _ _ rfl) rfl rfl rfl (m_bar (d := d) (b := false) hg h hr zhs) (by omega) ?_
  refine xv_istore_n (q := 8) rfl dX7_mustFor_7 rfl rfl ?_
  refine xv_aload_n (q := 9) rfl dX7_mustFor_8 rfl rfl ?_
  refine xv_geti (q := 12) rfl dX7_mustFor_9 f_X7_23 (hg.1 _ _ rfl) ?_
  rw [hd]
  refine xv_iconst (v := nI 1) (q := 13) rfl dX7_mustFor_12 rfl ?_
  refine xv_icmp_ne (q := 16) (t := 18) rfl rfl dX7_mustFor_13 (fun h13 => ?_) (fun h13 => ?_)
  · have h13 : dd = 2 := by rcases hdd with e | e; exact absurd (by rw [e]) h13; exact e
    refine xv_aload_n (q := 19) rfl dX7_mustFor_18 rfl rfl ?_
    refine xv_iload_n (q := 20) rfl dX7_mustFor_19 rfl rfl ?_
    refine xv_iload_n (q := 21) rfl dX7_mustFor_20 rfl rfl ?_
    refine xv_iconst (v := nI 1) (q := 22) rfl dX7_mustFor_21 rfl ?_
    refine xv_cV3 (z := mX7_barring) (q := 25) rfl dX7_mustFor_22 l_X7_267 gX7_barring (hg.1 _ _ rfl) rfl rfl rfl (m_bar (d := d) (b := true) hg h hr zhs) (by omega) ?_
    refine xv_istore (q := 27) rfl dX7_mustFor_25 rfl ?_
    refine xv_iload (q := 29) rfl dX7_mustFor_27 rfl ?_
    refine xv_cS1 (z := mX7_bitsOf) (q := 32) rfl dX7_mustFor_29 l_X7_270 gX7_bitsOf rfl (m_bits (d := d) (p5 (Nat.lt_of_le_of_lt Nat.and_le_right zhs) hn5)) (by omega) ?_
    refine xv_iload_n (q := 33) rfl dX7_mustFor_32 rfl rfl ?_
    refine xv_cS1 (z := mX7_bitsOf) (q := 36) rfl dX7_mustFor_33 l_X7_270 gX7_bitsOf rfl (m_bits (d := d) (p5 (Nat.lt_of_le_of_lt Nat.and_le_right zhs) hn5)) (by omega) ?_
    refine xv_icmp_ge (q := 39) (t := 44) rfl rfl dX7_mustFor_36 (fun h36 => ?_) (fun h36 => ?_)
    · have h36 := nIle h36 (by have := popc_5 _ hb0; omega) (by have := popc_5 _ hb1; omega)
      refine xv_iload_n (q := 45) rfl dX7_mustFor_44 rfl rfl ?_
      refine xv_iret dX7_mustFor_45 rfl ?_
      exact ⟨by unfold mus; rw [if_neg (by omega)], rfl, rfl, rfl, rfl⟩
    · have h36 := nInle h36 (by have := popc_5 _ hb0; omega) (by have := popc_5 _ hb1; omega)
      refine xv_iload (q := 41) rfl dX7_mustFor_39 rfl ?_
      refine xv_goto (t := 45) rfl dX7_mustFor_41 ?_
      refine xv_iret dX7_mustFor_45 rfl ?_
      exact ⟨by unfold mus; rw [if_pos ⟨h13, h36⟩], rfl, rfl, rfl, rfl⟩
  · have h13 : dd = 1 := (nI_eq (by omega) (by decide)).mp h13
    refine xv_iload_n (q := 17) rfl dX7_mustFor_16 rfl rfl ?_
    refine xv_iret dX7_mustFor_17 rfl ?_
    exact ⟨by unfold mus; rw [if_neg (by omega)], rfl, rfl, rfl, rfl⟩
end MRIDE

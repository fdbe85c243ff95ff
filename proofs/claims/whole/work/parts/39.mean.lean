/-! lowest terms, mean -/
theorem lN_n0 {b : Nat} (h : 0 < b) (zhb : b < 2 ^ 63) : ¬ lN b = 0 := fun q => by
  have := (pk_lEQ (b := 0) zhb (by decide)).mp q
  omega
theorem lN_0 {b : Nat} (zhb : b < 2 ^ 63) (h : lN b = lN 0) : b = 0 := (pk_lEQ (b := 0) zhb (by decide)).mp h
/-- part 0 above, 1 below the line -/
def lwt (above below : Nat) (part : Int32) : Nat := (if part = 0 then above else below) / Nat.gcd above below
theorem euc_half {x y : Nat} (zh0 : 0 < x % y) (zhy : 0 < y) {k : Nat} (hk : y < 2 ^ (k + 1)) : y % (x % y) < 2 ^ k := by
  have zh1 := Nat.mod_lt x zhy
  have zh2 := Nat.mod_lt y zh0
  have zh3 : y % (x % y) + (x % y) ≤ y := by
    have zh4 := Nat.div_add_mod y (x % y)
    have zh5 : 1 ≤ y / (x % y) := Nat.div_pos (Nat.le_of_lt zh1) zh0
    have zh6 : (x % y) * 1 ≤ (x % y) * (y / (x % y)) := Nat.mul_le_mul_left _ zh5
    omega
  have zh7 : 2 ^ (k + 1) = 2 ^ k * 2 := Nat.pow_succ 2 k
  omega
section LOWEST
variable {E : XE} {d : Nat} {sh : XSh} {I : XI} {R : XRf} {L : XL}
theorem c_low_end {above below g : Nat} (ha : above < 2 ^ 63) (zhb : below < 2 ^ 63) (hg0 : 0 < g) (hgl : g < 2 ^ 63) (hgg : g = Nat.gcd above below) (part : Int32) (l7 l9 l10 l11 : Option Value) : XV E mX6_inLowestTerms d 0 0 (xq (some (.long (lN (lwt above below part)))) sh I R L) 0 0 45 [some (.long (lN above)), none, some (.long (lN below)), none, some (.int part), some (.long (lN g)), none, l7, none, l9, l10, l11] [] sh I R L := by
  have hne := lN_n0 hg0 hgl
  refine xv_iload (q := 47) rfl dX6_inLowestTerms_45 rfl ?_
  refine xv_if_ne (q := 50) (t := 54) rfl rfl dX6_inLowestTerms_47 (fun h47 => ?_) (fun h47 => ?_)
  · refine xv_lload_n (q := 55) rfl dX6_inLowestTerms_54 rfl rfl ?_
    refine xv_lstore (q := 57) rfl dX6_inLowestTerms_55 rfl ?_
    refine xv_lload (q := 59) rfl dX6_inLowestTerms_57 rfl ?_
    refine xv_lconst (v := lN 0) (q := 60) rfl dX6_inLowestTerms_59 rfl ?_
    refine xv_lcmp (q := 61) rfl dX6_inLowestTerms_60 ?_
    refine xv_if_ne (q := 64) (t := 69) rfl rfl dX6_inLowestTerms_61 (fun h61 => ?_) (fun h61 => ?_)
    · refine xv_lload (q := 71) rfl dX6_inLowestTerms_69 rfl ?_
      refine xv_lload (q := 73) rfl dX6_inLowestTerms_71 rfl ?_
      refine xv_ldiv (q := 74) rfl dX6_inLowestTerms_73 hne ?_
      refine xv_asl (w := lN (below / g)) (pk_lDiv zhb hg0 hgl) ?_
      refine xv_lret dX6_inLowestTerms_74 rfl ?_
      exact ⟨by unfold lwt; rw [if_neg h47, hgg], rfl, rfl, rfl, rfl⟩
    · exact absurd ((lg_cmp_eq _ _).mp h61) hne
  · refine xv_lload_n (q := 51) rfl dX6_inLowestTerms_50 rfl rfl ?_
    refine xv_goto (t := 55) rfl dX6_inLowestTerms_51 ?_
    refine xv_lstore (q := 57) rfl dX6_inLowestTerms_55 rfl ?_
    refine xv_lload (q := 59) rfl dX6_inLowestTerms_57 rfl ?_
    refine xv_lconst (v := lN 0) (q := 60) rfl dX6_inLowestTerms_59 rfl ?_
    refine xv_lcmp (q := 61) rfl dX6_inLowestTerms_60 ?_
    refine xv_if_ne (q := 64) (t := 69) rfl rfl dX6_inLowestTerms_61 (fun h61 => ?_) (fun h61 => ?_)
    · refine xv_lload (q := 71) rfl dX6_inLowestTerms_69 rfl ?_
      refine xv_lload (q := 73) rfl dX6_inLowestTerms_71 rfl ?_
      refine xv_ldiv (q := 74) rfl dX6_inLowestTerms_73 hne ?_
      refine xv_asl (w := lN (above / g)) (pk_lDiv ha hg0 hgl) ?_
      refine xv_lret dX6_inLowestTerms_74 rfl ?_
      exact ⟨by unfold lwt; rw [if_pos h47, hgg], rfl, rfl, rfl, rfl⟩
    · exact absurd ((lg_cmp_eq _ _).mp h61) hne
theorem c_low_loop {above below : Nat} (ha : above < 2 ^ 63) (zhb : below < 2 ^ 63) (part : Int32) : ∀ (k x y m : Nat) (l10 l11 : Option Value), y < 2 ^ k → m + 2 * k ≤ 198 → x < 2 ^ 63 → y < 2 ^ 63 → 0 < Nat.gcd x y → Nat.gcd x y = Nat.gcd above below → XV E mX6_inLowestTerms d 0 0 (xq (some (.long (lN (lwt above below part)))) sh I R L) 0 0 9 [some (.long (lN above)), none, some (.long (lN below)), none, some (.int part), some (.long (lN x)), none, some (.long (lN y)), none, some (.int (nI m)), l10, l11] [] sh I R L := by
  intro k
  induction k with
  | zero =>
    intro x y m l10 l11 zh1 zh2 zhx zhy zh0 hgg
    obtain rfl : y = 0 := by omega
    rw [Nat.gcd_zero_right] at zh0 hgg
    refine xv_iload (q := 11) rfl dX6_inLowestTerms_9 rfl ?_
    refine xv_sipush (v := nI 200) (q := 14) rfl dX6_inLowestTerms_11 rfl ?_
    refine xv_icmp_ge (q := 17) (t := 45) rfl rfl dX6_inLowestTerms_14 (fun h14 => ?_) (fun h14 => ?_)
    · exact absurd (nIle h14 (by omega) (by omega)) (by omega)
    · refine xv_lload (q := 19) rfl dX6_inLowestTerms_17 rfl ?_
      refine xv_lconst (v := lN 0) (q := 20) rfl dX6_inLowestTerms_19 rfl ?_
      refine xv_lcmp (q := 21) rfl dX6_inLowestTerms_20 ?_
      refine xv_if_eq (q := 24) (t := 45) rfl rfl dX6_inLowestTerms_21 (fun h21 => ?_) (fun h21 => ?_)
      · exact c_low_end ha zhb zh0 zhx hgg part _ _ _ _
      · exact absurd ((lg_cmp_eq _ _).mpr rfl) h21
  | succ k ih =>
    intro x y m l10 l11 zh1 zh2 zhx zhy zh0 hgg
    refine xv_iload (q := 11) rfl dX6_inLowestTerms_9 rfl ?_
    refine xv_sipush (v := nI 200) (q := 14) rfl dX6_inLowestTerms_11 rfl ?_
    refine xv_icmp_ge (q := 17) (t := 45) rfl rfl dX6_inLowestTerms_14 (fun h14 => ?_) (fun h14 => ?_)
    · exact absurd (nIle h14 (by omega) (by omega)) (by omega)
    · refine xv_lload (q := 19) rfl dX6_inLowestTerms_17 rfl ?_
      refine xv_lconst (v := lN 0) (q := 20) rfl dX6_inLowestTerms_19 rfl ?_
      refine xv_lcmp (q := 21) rfl dX6_inLowestTerms_20 ?_
      refine xv_if_eq (q := 24) (t := 45) rfl rfl dX6_inLowestTerms_21 (fun h21 => ?_) (fun h21 => ?_)
      · have hy00 : y = 0 := lN_0 zhy ((lg_cmp_eq _ _).mp h21)
        subst hy00
        rw [Nat.gcd_zero_right] at zh0 hgg
        exact c_low_end ha zhb zh0 zhx hgg part _ _ _ _
      · have hy0 : 0 < y := Nat.pos_of_ne_zero (fun q => h21 ((lg_cmp_eq _ _).mpr (by rw [q])))
        refine xv_lload (q := 26) rfl dX6_inLowestTerms_24 rfl ?_
        refine xv_lload (q := 28) rfl dX6_inLowestTerms_26 rfl ?_
        refine xv_lrem (q := 29) rfl dX6_inLowestTerms_28 (lN_n0 hy0 zhy) ?_
        refine xv_asl (w := lN (x % y)) (pk_lRem zhx hy0 zhy) ?_
        refine xv_lstore (q := 31) rfl dX6_inLowestTerms_29 rfl ?_
        refine xv_lload (q := 33) rfl dX6_inLowestTerms_31 rfl ?_
        refine xv_lstore (q := 35) rfl dX6_inLowestTerms_33 rfl ?_
        refine xv_lload (q := 37) rfl dX6_inLowestTerms_35 rfl ?_
        refine xv_lstore (q := 39) rfl dX6_inLowestTerms_37 rfl ?_
        refine xv_iinc (q := 42) (v := nI 1) rfl dX6_inLowestTerms_39 rfl rfl ?_
        refine xv_goto (t := 9) rfl dX6_inLowestTerms_42 ?_
        rw [nI_add]
        by_cases hr0 : x % y = 0
        · -- one more look
          refine xv_iload (q := 11) rfl dX6_inLowestTerms_9 rfl ?_
          refine xv_sipush (v := nI 200) (q := 14) rfl dX6_inLowestTerms_11 rfl ?_
          refine xv_icmp_ge (q := 17) (t := 45) rfl rfl dX6_inLowestTerms_14 (fun h14 => ?_) (fun h14 => ?_)
          · exact absurd (nIle h14 (by omega) (by omega)) (by omega)
          · refine xv_lload (q := 19) rfl dX6_inLowestTerms_17 rfl ?_
            refine xv_lconst (v := lN 0) (q := 20) rfl dX6_inLowestTerms_19 rfl ?_
            refine xv_lcmp (q := 21) rfl dX6_inLowestTerms_20 ?_
            refine xv_if_eq (q := 24) (t := 45) rfl rfl dX6_inLowestTerms_21 (fun h21 => ?_) (fun h21 => ?_)
            · have hgy : y = Nat.gcd x y := by
                rw [Nat.gcd_comm, Nat.gcd_rec, hr0, Nat.gcd_zero_left]
              exact c_low_end ha zhb hy0 zhy (hgy.trans hgg) part _ _ _ _
            · exact absurd ((lg_cmp_eq _ _).mpr (by rw [hr0])) h21
        · have hr1 : 0 < x % y := Nat.pos_of_ne_zero hr0
          have hrl : x % y < 2 ^ 63 := Nat.lt_of_lt_of_le (Nat.mod_lt x hy0) (Nat.le_of_lt zhy)
          refine xv_iload (q := 11) rfl dX6_inLowestTerms_9 rfl ?_
          refine xv_sipush (v := nI 200) (q := 14) rfl dX6_inLowestTerms_11 rfl ?_
          refine xv_icmp_ge (q := 17) (t := 45) rfl rfl dX6_inLowestTerms_14 (fun h14 => ?_) (fun h14 => ?_)
          · exact absurd (nIle h14 (by omega) (by omega)) (by omega)
          · refine xv_lload (q := 19) rfl dX6_inLowestTerms_17 rfl ?_
            refine xv_lconst (v := lN 0) (q := 20) rfl dX6_inLowestTerms_19 rfl ?_
            refine xv_lcmp (q := 21) rfl dX6_inLowestTerms_20 ?_
            refine xv_if_eq (q := 24) (t := 45) rfl rfl dX6_inLowestTerms_21 (fun h21 => ?_) (fun h21 => ?_)
            · exact absurd (lN_0 hrl ((lg_cmp_eq _ _).mp h21)) hr0
            · refine xv_lload (q := 26) rfl dX6_inLowestTerms_24 rfl ?_
              refine xv_lload (q := 28) rfl dX6_inLowestTerms_26 rfl ?_
              refine xv_lrem (q := 29) rfl dX6_inLowestTerms_28 (lN_n0 hr1 hrl) ?_
              refine xv_asl (w := lN (y % (x % y))) (pk_lRem zhy hr1 hrl) ?_
              refine xv_lstore (q := 31) rfl dX6_inLowestTerms_29 rfl ?_
              refine xv_lload (q := 33) rfl dX6_inLowestTerms_31 rfl ?_
              refine xv_lstore (q := 35) rfl dX6_inLowestTerms_33 rfl ?_
              refine xv_lload (q := 37) rfl dX6_inLowestTerms_35 rfl ?_
              refine xv_lstore (q := 39) rfl dX6_inLowestTerms_37 rfl ?_
              refine xv_iinc (q := 42) (v := nI 1) rfl dX6_inLowestTerms_39 rfl rfl ?_
              refine xv_goto (t := 9) rfl dX6_inLowestTerms_42 ?_
              rw [nI_add]
              have hs2 := euc_half hr1 hy0 zh1
              have hsl : y % (x % y) < 2 ^ 63 := Nat.lt_of_lt_of_le (Nat.mod_lt y hr1) (Nat.le_of_lt hrl)
              have hgr : Nat.gcd (x % y) (y % (x % y)) = Nat.gcd x y := by
                rw [Nat.gcd_comm, ← Nat.gcd_rec, ← Nat.gcd_rec, Nat.gcd_comm]
              exact ih (x % y) (y % (x % y)) (m + 1 + 1) _ _ hs2 (by omega) hrl hsl (by rw [hgr]; exact zh0) (hgr.trans hgg)
theorem c_low {above below : Nat} (ha : above < 2 ^ 63) (zhb : below < 2 ^ 63) (hb0 : 0 < below) (part : Int32) : XC E mX6_inLowestTerms d 0 0 [.long (lN above), .long (lN below), .int part] sh I R L (xq (some (.long (lN (lwt above below part)))) sh I R L) := by
  refine XC.of (by decide) rfl rfl ?_
  refine xv_lload_n (q := 1) rfl dX6_inLowestTerms_0 rfl rfl ?_
  refine xv_lstore (q := 3) rfl dX6_inLowestTerms_1 rfl ?_
  refine xv_lload_n (q := 4) rfl dX6_inLowestTerms_3 rfl rfl ?_
  refine xv_lstore (q := 6) rfl dX6_inLowestTerms_4 rfl ?_
  refine xv_iconst (v := nI 0) (q := 7) rfl dX6_inLowestTerms_6 rfl ?_
  refine xv_istore (q := 9) rfl dX6_inLowestTerms_7 rfl ?_
  exact c_low_loop ha zhb part 63 above below 0 none none zhb (by omega) ha zhb (Nat.gcd_pos_of_pos_right _ hb0) rfl
end LOWEST
def wgt (c : CR) (s : Nat) : Nat → Nat
  | 0 => 1
  | k + 1 => wgt c s k * (if s.testBit k = true then c 6 k else 100 - c 6 k)
def mnt (c : CR) (n dd : Nat) (tv : TV) (what : Int32) (s : Nat) : Nat := if what = 0 then rdc c n dd s tv else if spk c n dd s 10 = 0 then 1 else 0
def mns (c : CR) (n dd : Nat) (tv : TV) (what : Int32) : Nat → Nat
  | 0 => 0
  | s + 1 => mns c n dd tv what s + wgt c s n * mnt c n dd tv what s
def sp_mean (n : Nat) (c : CR) (dd : Nat) (tv : TV) (what part : Int32) : Int64 := if what < 0 ∨ nI 1 < what ∨ part < 0 ∨ ¬ part ≤ nI 1 then -4611686018427387904 else lN (lwt (mns c n dd tv what (2 ^ n)) (100 ^ n) part)
theorem wgt_le {c : CR} {n s : Nat} (hw : wfn c n) : ∀ k, k ≤ n → wgt c s k ≤ 100 ^ k
  | 0, _ => Nat.le_refl 1
  | k + 1, hk => by
    show wgt c s k * _ ≤ 100 ^ (k + 1)
    rw [Nat.pow_succ]
    refine Nat.mul_le_mul (wgt_le hw k (by omega)) ?_
    have := (hw k (by omega)).2.2.2.2.2.2.1
    split <;> omega
theorem wgt_5 {c : CR} {n s : Nat} (hw : wfn c n) (hn : n ≤ 5) : wgt c s n ≤ 10000000000 := Nat.le_trans (wgt_le hw n (Nat.le_refl n)) (show 100 ^ n ≤ 100 ^ 5 from Nat.pow_le_pow_right (by decide) hn)
theorem mnt_le {c : CR} {n dd s : Nat} {tv : TV} {what : Int32} (hw : wfn c n) (hn : n ≤ 5) : mnt c n dd tv what s ≤ 10350 := by
  unfold mnt
  have := rdc_le (dd := dd) (P := s) (tv := tv) (c := c) (n := n) (fun a ha => (hw a ha).2.2.1) hn
  split
  · exact this
  · split <;> omega
theorem mns_le {c : CR} {n dd : Nat} {tv : TV} {what : Int32} (hw : wfn c n) (hn : n ≤ 5) : ∀ s, mns c n dd tv what s ≤ s * 103500000000000
  | 0 => Nat.zero_le _
  | s + 1 => by
    have zh1 := mns_le (dd := dd) (tv := tv) (what := what) hw hn s
    have zh2 : wgt c s n * mnt c n dd tv what s ≤ 10000000000 * 10350 := Nat.mul_le_mul (wgt_5 hw hn) (mnt_le hw hn)
    show mns c n dd tv what s + wgt c s n * mnt c n dd tv what s ≤ _
    omega
theorem spk_le (c : CR) (n dd P : Nat) (hn : n ≤ 5) : ∀ k, spk c n dd P k ≤ 5 * k
  | 0 => Nat.zero_le _
  | k + 1 => by
    have zh1 := spk_le c n dd P hn k
    have zh2 := popc_5 _ (p5 (wso_lt c n dd P k) hn)
    show spk c n dd P k + popc (wso c n dd P k) ≤ _
    omega
section MEAN
variable {E : XE} {d : Nat} {sh : XSh} {I : XI} {R : XRf} {L : XL} {n dd u tc : Nat} {c : CR} {tx : TXS} {tv : TV} {t : Nat}
theorem c_wgt_loop (hg : XG sh R) (hK : KXc I n c dd u) {s : Nat} (zhs : s < 32) : ∀ (k r : Nat), r ≤ n → n < r + k → XV E mX6_weightOf d 0 0 (xq (some (.long (lN (wgt c s n)))) sh I R L) 0 0 5 [some (.ref 0), some (.int (nI s)), some (.long (lN (wgt c s r))), none, some (.int (nI r))] [] sh I R L := by
  obtain ⟨hm, hn, hn5, hdd, hd2, hu, hwf⟩ := id hK
  intro k
  induction k with
  | zero => intro r zh1 zh2; exact absurd zh2 (by omega)
  | succ k ih =>
    intro r zh1 zh2
    refine xv_iload (q := 7) rfl dX6_weightOf_5 rfl ?_
    refine xv_aload_n (q := 8) rfl dX6_weightOf_7 rfl rfl ?_
    refine xv_geto (q := 11) rfl dX6_weightOf_8 f_X6_10 (hg.1 _ _ rfl) (hg.2 _ _ _ rfl) ?_
    refine xv_geti (q := 14) rfl dX6_weightOf_11 f_X6_98 (hg.1 _ _ rfl) ?_
    rw [hn]
    refine xv_icmp_ge (q := 17) (t := 63) rfl rfl dX6_weightOf_14 (fun h14 => ?_) (fun h14 => ?_)
    · have hrn : r = n := by have := nIle h14 (by omega) (by omega); omega
      subst hrn
      refine xv_lload_n (q := 64) rfl dX6_weightOf_63 rfl rfl ?_
      refine xv_lret dX6_weightOf_64 rfl ?_
      exact xq_rfl
    · have hrn : r < n := nInle h14 (by omega) (by omega)
      have hch := (hwf.1 r hrn).2.2.2.2.2.2.1
      refine xv_lload_n (q := 18) rfl dX6_weightOf_17 rfl rfl ?_
      refine xv_iload_n (q := 19) rfl dX6_weightOf_18 rfl rfl ?_
      refine xv_iload (q := 21) rfl dX6_weightOf_19 rfl ?_
      refine xv_ishr (q := 22) rfl dX6_weightOf_21 ?_
      refine xv_iconst (v := nI 1) (q := 23) rfl dX6_weightOf_22 rfl ?_
      refine xv_iand (q := 24) rfl dX6_weightOf_23 ?_
      refine xv_as (w := nI (b01 (s.testBit r))) (shb _ zhs r (by omega)) ?_
      refine xv_if_eq (q := 27) (t := 41) rfl rfl dX6_weightOf_24 (fun h24 => ?_) (fun h24 => ?_)
      · have hbit := b01z h24
        refine xv_bipush (v := nI 100) (q := 43) rfl dX6_weightOf_41 rfl ?_
        refine xv_aload_n (q := 44) rfl dX6_weightOf_43 rfl rfl ?_
        refine xv_geto (q := 47) rfl dX6_weightOf_44 f_X6_10 (hg.1 _ _ rfl) (hg.2 _ _ _ rfl) ?_
        refine xv_geta (q := 50) rfl dX6_weightOf_47 f_X6_116 (hg.1 _ _ rfl) (hg.2 _ _ _ rfl) ?_
        refine xv_iload (q := 52) rfl dX6_weightOf_50 rfl ?_
        refine xv_iald (q := 53) rfl dX6_weightOf_52 (hg.1 _ _ rfl) rfl (by omega) (by decide) ?_
        refine xv_as (w := nI (c 6 r)) (hm 6 r (by decide) hrn) ?_
        refine xv_isub (q := 54) rfl dX6_weightOf_53 ?_
        refine xv_as (w := nI (100 - c 6 r)) (pk_sub hch) ?_
        refine xv_i2l (q := 55) rfl dX6_weightOf_54 ?_
        refine xv_asl (w := lN (100 - c 6 r)) (nI_l (by omega)) ?_
        refine xv_lmul (q := 56) rfl dX6_weightOf_55 ?_
        refine xv_asl (w := lN (wgt c s r * (100 - c 6 r))) (lN_mul _ _) ?_
        refine xv_lstore_n (q := 57) rfl dX6_weightOf_56 rfl rfl ?_
        refine xv_iinc (q := 60) (v := nI 1) rfl dX6_weightOf_57 rfl rfl ?_
        refine xv_goto (t := 5) rfl dX6_weightOf_60 ?_
        rw [nI_add]
        have zhz := ih (r + 1) (by omega) (by omega)
        rw [show wgt c s (r + 1) = wgt c s r * (100 - c 6 r) from by show _ * (if _ then _ else _) = _; rw [hbit]; rfl] at zhz
        exact zhz
      · have hbit := b01n h24
        refine xv_aload_n (q := 28) rfl dX6_weightOf_27 rfl rfl ?_
        refine xv_geto (q := 31) rfl dX6_weightOf_28 f_X6_10 (hg.1 _ _ rfl) (hg.2 _ _ _ rfl) ?_
        refine xv_geta (q := 34) rfl dX6_weightOf_31 f_X6_116 (hg.1 _ _ rfl) (hg.2 _ _ _ rfl) ?_
        refine xv_iload (q := 36) rfl dX6_weightOf_34 rfl ?_
        refine xv_iald (q := 37) rfl dX6_weightOf_36 (hg.1 _ _ rfl) rfl (by omega) (by decide) ?_
        refine xv_as (w := nI (c 6 r)) (hm 6 r (by decide) hrn) ?_
        refine xv_i2l (q := 38) rfl dX6_weightOf_37 ?_
        refine xv_asl (w := lN (c 6 r)) (nI_l (by omega)) ?_
        refine xv_goto (t := 55) rfl dX6_weightOf_38 ?_
        refine xv_lmul (q := 56) rfl dX6_weightOf_55 ?_
        refine xv_asl (w := lN (wgt c s r * c 6 r)) (lN_mul _ _) ?_
        refine xv_lstore_n (q := 57) rfl dX6_weightOf_56 rfl rfl ?_
        refine xv_iinc (q := 60) (v := nI 1) rfl dX6_weightOf_57 rfl rfl ?_
        refine xv_goto (t := 5) rfl dX6_weightOf_60 ?_
        rw [nI_add]
        have zhz := ih (r + 1) (by omega) (by omega)
        rw [show wgt c s (r + 1) = wgt c s r * c 6 r from by show _ * (if _ then _ else _) = _; rw [hbit]; rfl] at zhz
        exact zhz
theorem c_wgt (hg : XG sh R) (hK : KXc I n c dd u) {s : Nat} (zhs : s < 32) : XC E mX6_weightOf d 0 0 [.ref 0, .int (nI s)] sh I R L (xq (some (.long (lN (wgt c s n)))) sh I R L) := by
  refine XC.of (by decide) rfl rfl ?_
  refine xv_lconst (v := lN 1) (q := 1) rfl dX6_weightOf_0 rfl ?_
  refine xv_lstore_n (q := 2) rfl dX6_weightOf_1 rfl rfl ?_
  refine xv_iconst (v := nI 0) (q := 3) rfl dX6_weightOf_2 rfl ?_
  refine xv_istore (q := 5) rfl dX6_weightOf_3 rfl ?_
  exact c_wgt_loop hg hK zhs (n + 1) 0 (by omega) (by omega)
theorem KXc.ft {I J : XI} (h : KXc I n c dd u) (hF : FT I J) : KXc J n c dd u := ⟨fun w r hw hr => by rw [hF _ (by omega)]; exact h.1 w r hw hr, by rw [hF 1 (by decide)]; exact h.2.1, h.2.2.1, by rw [hF 1 (by decide)]; exact h.2.2.2.1, h.2.2.2.2.1, by rw [hF 1 (by decide)]; exact h.2.2.2.2.2.1, h.2.2.2.2.2.2⟩
theorem c_mean_loop (hg : XG sh R) (hK : KXc I n c dd u) (hKT : KT sh I R t tv) (hr3 : R 23 1 = some t) (w part : Int32) {R0 : XRf} (hR0 : RT R0 R) : ∀ (k s : Nat) (J : XI) (l8 l9 : Option Value), s ≤ 2 ^ n → 2 ^ n < s + k → FT I J → TW J n c dd →
    XV E mX6_mean (d + 6) 0 0 (QTr (.long (lN (lwt (mns c n dd tv w (2 ^ n)) (100 ^ n) part))) sh I R0 L) 0 0 61 [some (.ref 0), some (.int w), some (.int part), some (.long (lN (100 ^ n))), none, some (.long (lN (mns c n dd tv w s))), none, some (.int (nI s)), l8, l9] [] sh J R L := by
  obtain ⟨hm, hn, hn5, hdd, hd2, hu, hwf⟩ := id hK
  have hp5 : 2 ^ n ≤ 32 := show 2 ^ n ≤ 2 ^ 5 from Nat.pow_le_pow_right (by decide) hn5
  intro k
  induction k with
  | zero => intro s J l8 l9 zh1 zh2; exact absurd zh2 (by omega)
  | succ k ih =>
    intro s J l8 l9 zh1 zh2 hF hW
    have hms := mns_le (dd := dd) (tv := tv) (what := w) hwf.1 hn5 s
    have hwl := wgt_5 (s := s) hwf.1 hn5
    refine xv_iload (q := 63) rfl dX6_mean_61 rfl ?_
    refine xv_iconst (v := nI 1) (q := 64) rfl dX6_mean_63 rfl ?_
    refine xv_aload_n (q := 65) rfl dX6_mean_64 rfl rfl ?_
    refine xv_geto (q := 68) rfl dX6_mean_65 f_X6_10 (hg.1 _ _ rfl) (hg.2 _ _ _ rfl) ?_
    refine xv_geti (q := 71) rfl dX6_mean_68 f_X6_98 (hg.1 _ _ rfl) ?_
    rw [show J 1 7 = nI n from (congrFun (hF 1 (by decide)) 7).trans hn]
    refine xv_ishl (q := 72) rfl dX6_mean_71 ?_
    refine xv_as (w := nI (2 ^ n)) (sh1 n (by omega)) ?_
    refine xv_icmp_ge (q := 75) (t := 143) rfl rfl dX6_mean_72 (fun h75 => ?_) (fun h75 => ?_)
    · have zhs : s = 2 ^ n := by have := nIle h75 (by omega) (by omega); omega
      subst zhs
      refine xv_lload (q := 145) rfl dX6_mean_143 rfl ?_
      refine xv_lload_n (q := 146) rfl dX6_mean_145 rfl rfl ?_
      refine xv_iload_n (q := 147) rfl dX6_mean_146 rfl rfl ?_
      refine xv_cS3 (z := mX6_inLowestTerms) (q := 150) rfl dX6_mean_147 l_X6_207 gX6_inLowestTerms rfl (c_low (d := d + 4) (show mns c n dd tv w (2 ^ n) < 2 ^ 63 by omega) (show 100 ^ n < 2 ^ 63 from Nat.lt_of_le_of_lt (show 100 ^ n ≤ 100 ^ 5 from Nat.pow_le_pow_right (by decide) hn5) (by decide)) (Nat.pow_pos (by decide)) part) (by omega) ?_
      refine xv_lret dX6_mean_150 rfl ?_
      exact ⟨rfl, rfl, hR0, rfl, hF⟩
    · have zhs : s < 2 ^ n := nInle h75 (by omega) (by omega)
      refine xv_aload_n (q := 76) rfl dX6_mean_75 rfl rfl ?_
      refine xv_iload (q := 78) rfl dX6_mean_76 rfl ?_
      refine xv_cV1 (z := mX6_weightOf) (q := 81) rfl dX6_mean_78 l_X6_199 gX6_weightOf (hg.1 _ _ rfl) rfl rfl rfl (c_wgt (d := d + 4) hg (hK.ft hF) (show s < 32 by omega)) (by omega) ?_
      refine xv_lstore (q := 83) rfl dX6_mean_81 rfl ?_
      refine xv_lload (q := 85) rfl dX6_mean_83 rfl ?_
      refine xv_lconst (v := lN 0) (q := 86) rfl dX6_mean_85 rfl ?_
      refine xv_lcmp (q := 87) rfl dX6_mean_86 ?_
      refine xv_if_eq (q := 90) (t := 137) rfl rfl dX6_mean_87 (fun h90 => ?_) (fun h90 => ?_)
      · have h90 : wgt c s n = 0 := lN_0 (by omega) ((lg_cmp_eq _ _).mp h90)
        refine xv_iinc (q := 140) (v := nI 1) rfl dX6_mean_137 rfl rfl ?_
        refine xv_goto (t := 61) rfl dX6_mean_140 ?_
        rw [nI_add]
        have zhz := ih (s + 1) J (some (.long (lN (wgt c s n)))) none (by omega) (by omega) hF hW
        rw [show mns c n dd tv w (s + 1) = mns c n dd tv w s from by show _ + wgt c s n * _ = _; rw [h90, Nat.zero_mul, Nat.add_zero]] at zhz
        exact zhz
      · refine xv_aload_n (q := 91) rfl dX6_mean_90 rfl rfl ?_
        refine xv_geto (q := 94) rfl dX6_mean_91 f_X6_41 (hg.1 _ _ rfl) (hg.2 _ _ _ rfl) ?_
        refine xv_iload (q := 96) rfl dX6_mean_94 rfl ?_
        refine xv_rV1 (z := mX5_gather) (q := 99) rfl dX6_mean_96 l_X6_203 gX5_gather (hg.1 _ _ rfl) rfl rfl rfl (c_gather (d := d + 1) hg hW.1 (show s < 32 by omega)) (by omega) ?_
        rintro _ sh K R L ⟨rfl, rfl, rfl, rfl, za1, za2, za3, za4⟩
        have hF2 : FT I K := hF.trans (fun k hk => za1 k (by omega))
        have hW2 : TW K n c dd := hW.mv (fun k zh1 zh2 => za1 k (by omega))
        have hTR : TR K n c dd s := TR.of hW2 za3 SX.rf za2 (by omega)
        refine xv_lload (q := 101) rfl dX6_mean_99 rfl ?_
        refine xv_lload (q := 103) rfl dX6_mean_101 rfl ?_
        refine xv_iload_n (q := 104) rfl dX6_mean_103 rfl rfl ?_
        refine xv_if_ne (q := 107) (t := 117) rfl rfl dX6_mean_104 (fun h107 => ?_) (fun h107 => ?_)
        · refine xv_aload_n (q := 118) rfl dX6_mean_117 rfl rfl ?_
          refine xv_geto (q := 121) rfl dX6_mean_118 f_X6_41 (hg.1 _ _ rfl) (hg.2 _ _ _ rfl) ?_
          refine xv_cV0 (z := mX5_steps) (q := 124) rfl dX6_mean_121 l_X6_152 gX5_steps (hg.1 _ _ rfl) rfl rfl rfl (c_steps (d := d + 1) hg hTR) (by omega) ?_
          refine xv_if_ne (q := 127) (t := 131) rfl rfl dX6_mean_124 (fun h127 => ?_) (fun h127 => ?_)
          · have h127 : ¬ spk c n dd s 10 = 0 := fun q => h127 (by rw [q]; rfl)
            refine xv_iconst (v := nI 0) (q := 132) rfl dX6_mean_131 rfl ?_
            refine xv_i2l (q := 133) rfl dX6_mean_132 ?_
            refine xv_asl (w := lN 0) (nI_l (by decide)) ?_
            refine xv_lmul (q := 134) rfl dX6_mean_133 ?_
            refine xv_asl (w := lN (wgt c s n * 0)) (lN_mul _ _) ?_
            refine xv_ladd (q := 135) rfl dX6_mean_134 ?_
            refine xv_asl (w := lN (mns c n dd tv w s + wgt c s n * 0)) (lN_add _ _) ?_
            refine xv_lstore (q := 137) rfl dX6_mean_135 rfl ?_
            refine xv_iinc (q := 140) (v := nI 1) rfl dX6_mean_137 rfl rfl ?_
            refine xv_goto (t := 61) rfl dX6_mean_140 ?_
            rw [nI_add]
            have zhz := ih (s + 1) K (some (.long (lN (wgt c s n)))) none (by omega) (by omega) hF2 hW2
            rw [show mns c n dd tv w (s + 1) = mns c n dd tv w s + wgt c s n * 0 from by show _ + _ * mnt c n dd tv w s = _; unfold mnt; rw [if_neg h107, if_neg h127]] at zhz
            exact zhz
          · have h127 : spk c n dd s 10 = 0 := nIe (b := 0) h127 (by have := spk_le c n dd s hn5 10; omega) (by decide)
            refine xv_iconst (v := nI 1) (q := 128) rfl dX6_mean_127 rfl ?_
            refine xv_goto (t := 132) rfl dX6_mean_128 ?_
            refine xv_i2l (q := 133) rfl dX6_mean_132 ?_
            refine xv_asl (w := lN 1) (nI_l (by decide)) ?_
            refine xv_lmul (q := 134) rfl dX6_mean_133 ?_
            refine xv_asl (w := lN (wgt c s n * 1)) (lN_mul _ _) ?_
            refine xv_ladd (q := 135) rfl dX6_mean_134 ?_
            refine xv_asl (w := lN (mns c n dd tv w s + wgt c s n * 1)) (lN_add _ _) ?_
            refine xv_lstore (q := 137) rfl dX6_mean_135 rfl ?_
            refine xv_iinc (q := 140) (v := nI 1) rfl dX6_mean_137 rfl rfl ?_
            refine xv_goto (t := 61) rfl dX6_mean_140 ?_
            rw [nI_add]
            have zhz := ih (s + 1) K (some (.long (lN (wgt c s n)))) none (by omega) (by omega) hF2 hW2
            rw [show mns c n dd tv w (s + 1) = mns c n dd tv w s + wgt c s n * 1 from by show _ + _ * mnt c n dd tv w s = _; unfold mnt; rw [if_neg h107, if_pos h127]] at zhz
            exact zhz
        · refine xv_aload_n (q := 108) rfl dX6_mean_107 rfl rfl ?_
          refine xv_geto (q := 111) rfl dX6_mean_108 f_X6_41 (hg.1 _ _ rfl) (hg.2 _ _ _ rfl) ?_
          refine xv_rV0 (z := mX5_cost) (q := 114) rfl dX6_mean_111 l_X6_148 gX5_cost (hg.1 _ _ rfl) rfl rfl rfl (c_cost (d := d) (tv := tv) hg hTR (hKT.ft hF2) hr3 (fun part r f row zh1 zh2 zh3 zh4 => Or.inl (za4 _ (by omega)))) (by omega) ?_
          rintro _ sh M R L ⟨rfl, rfl, rfl, rfl, zb1, zb2⟩
          have za9 : FT I M := hF2.trans zb1.ft
          have zw9 : TW M n c dd := (hTR.mv zb1).tw
          have hrl := rdc_le (dd := dd) (P := s) (tv := tv) (c := c) (n := n) (fun r hr => (hwf.1 r hr).2.2.1) hn5
          refine xv_goto (t := 132) rfl dX6_mean_114 ?_
          refine xv_i2l (q := 133) rfl dX6_mean_132 ?_
          refine xv_asl (w := lN (rdc c n dd s tv)) (nI_l (by omega)) ?_
          refine xv_lmul (q := 134) rfl dX6_mean_133 ?_
          refine xv_asl (w := lN (wgt c s n * rdc c n dd s tv)) (lN_mul _ _) ?_
          refine xv_ladd (q := 135) rfl dX6_mean_134 ?_
          refine xv_asl (w := lN (mns c n dd tv w s + wgt c s n * rdc c n dd s tv)) (lN_add _ _) ?_
          refine xv_lstore (q := 137) rfl dX6_mean_135 rfl ?_
          refine xv_iinc (q := 140) (v := nI 1) rfl dX6_mean_137 rfl rfl ?_
          refine xv_goto (t := 61) rfl dX6_mean_140 ?_
          rw [nI_add]
          have zhz := ih (s + 1) M (some (.long (lN (wgt c s n)))) none (by omega) (by omega) za9 zw9
          rw [show mns c n dd tv w (s + 1) = mns c n dd tv w s + wgt c s n * rdc c n dd s tv from by show _ + _ * mnt c n dd tv w s = _; unfold mnt; rw [if_pos h107]] at zhz
          exact zhz
theorem c_hun_loop (hg : XG sh R) {J : XI} (hn7 : J 1 7 = nI n) (hn5 : n ≤ 5) (w part : Int32) {Q : XQ} (KK : ∀ l5 : Option Value, XV E mX6_mean (d + 6) 0 0 Q 0 0 55 [some (.ref 0), some (.int w), some (.int part), some (.long (lN (100 ^ n))), none, l5, none, none, none, none] [] sh J R L) : ∀ (k r : Nat), r ≤ n → n < r + k →
    XV E mX6_mean (d + 6) 0 0 Q 0 0 31 [some (.ref 0), some (.int w), some (.int part), some (.long (lN (100 ^ r))), none, some (.int (nI r)), none, none, none, none] [] sh J R L := by
  intro k
  induction k with
  | zero => intro r zh1 zh2; exact absurd zh2 (by omega)
  | succ k ih =>
    intro r zh1 zh2
    refine xv_iload (q := 33) rfl dX6_mean_31 rfl ?_
    refine xv_aload_n (q := 34) rfl dX6_mean_33 rfl rfl ?_
    refine xv_geto (q := 37) rfl dX6_mean_34 f_X6_10 (hg.1 _ _ rfl) (hg.2 _ _ _ rfl) ?_
    refine xv_geti (q := 40) rfl dX6_mean_37 f_X6_98 (hg.1 _ _ rfl) ?_
    rw [hn7]
    refine xv_icmp_ge (q := 43) (t := 55) rfl rfl dX6_mean_40 (fun h43 => ?_) (fun h43 => ?_)
    · have hrn : r = n := by have := nIle h43 (by omega) (by omega); omega
      subst hrn
      exact KK _
    · have hrn : r < n := nInle h43 (by omega) (by omega)
      refine xv_lload_n (q := 44) rfl dX6_mean_43 rfl rfl ?_
      refine xv_ldc2 (q := 47) rfl dX6_mean_44 k_X6_197 ?_
      rw [show (100 : Int64) = lN 100 from rfl]
      refine xv_lmul (q := 48) rfl dX6_mean_47 ?_
      refine xv_asl (w := lN (100 ^ r * 100)) (lN_mul _ _) ?_
      refine xv_lstore_n (q := 49) rfl dX6_mean_48 rfl rfl ?_
      refine xv_iinc (q := 52) (v := nI 1) rfl dX6_mean_49 rfl rfl ?_
      refine xv_goto (t := 31) rfl dX6_mean_52 ?_
      rw [nI_add]
      exact ih (r + 1) (by omega) (by omega)
theorem x_mean (hg : XG sh R) (hK : KXc I n c dd u) (hT : KTs sh I R tc tx) (hu : u < tc) (w part : Int32) : XC E mX6_mean (d + 6) 0 0 [.ref 0, .int w, .int part] sh I R L (QTr (.long (sp_mean n c dd (tvx tx u) w part)) sh I R L) := by
  obtain ⟨t, hst⟩ := c_start2 (E := E) (d := d) (L := L) hg hK hT hu
  obtain ⟨hm, hn, hn5, hdd, hd2, hu2, hwf⟩ := id hK
  refine XC.of (by decide) rfl rfl ?_
  refine xv_iload_n (q := 1) rfl dX6_mean_0 rfl rfl ?_
  refine xv_if_lt (q := 4) (t := 18) rfl rfl dX6_mean_1 (fun zh1 => ?_) (fun zh1 => ?_)
  · refine xv_ldc2 (q := 21) rfl dX6_mean_18 k_X6_195 ?_
    refine xv_lret dX6_mean_21 rfl ?_
    rw [show sp_mean n c dd (tvx tx u) w part = -4611686018427387904 from if_pos (Or.inl zh1)]
    exact QTr.rf
  · refine xv_iload_n (q := 5) rfl dX6_mean_4 rfl rfl ?_
    refine xv_iconst (v := nI 1) (q := 6) rfl dX6_mean_5 rfl ?_
    refine xv_icmp_gt (q := 9) (t := 18) rfl rfl dX6_mean_6 (fun zh6 => ?_) (fun zh6 => ?_)
    · refine xv_ldc2 (q := 21) rfl dX6_mean_18 k_X6_195 ?_
      refine xv_lret dX6_mean_21 rfl ?_
      rw [show sp_mean n c dd (tvx tx u) w part = -4611686018427387904 from if_pos (Or.inr (Or.inl zh6))]
      exact QTr.rf
    · refine xv_iload_n (q := 10) rfl dX6_mean_9 rfl rfl ?_
      refine xv_if_lt (q := 13) (t := 18) rfl rfl dX6_mean_10 (fun h10 => ?_) (fun h10 => ?_)
      · refine xv_ldc2 (q := 21) rfl dX6_mean_18 k_X6_195 ?_
        refine xv_lret dX6_mean_21 rfl ?_
        rw [show sp_mean n c dd (tvx tx u) w part = -4611686018427387904 from if_pos (Or.inr (Or.inr (Or.inl h10)))]
        exact QTr.rf
      · refine xv_iload_n (q := 14) rfl dX6_mean_13 rfl rfl ?_
        refine xv_iconst (v := nI 1) (q := 15) rfl dX6_mean_14 rfl ?_
        refine xv_icmp_le (q := 18) (t := 22) rfl rfl dX6_mean_15 (fun h15 => ?_) (fun h15 => ?_)
        · have zhq : sp_mean n c dd (tvx tx u) w part = _ := if_neg (fun z => z.elim zh1 (fun z => z.elim zh6 (fun z => z.elim h10 (fun z => z h15))))
          rw [zhq]
          refine xv_aload_n (q := 23) rfl dX6_mean_22 rfl rfl ?_
          refine xv_rV0 (z := mX6_setOut) (q := 26) rfl dX6_mean_23 l_X6_145 gX6_setOut (hg.1 _ _ rfl) rfl rfl rfl (hst) (by omega) ?_
          rintro _ sh J R' L ⟨rfl, rfl, rfl, za1, za2, za3, za4, za5, za6, za7⟩
          have hKT : KT sh I R' t (tvx tx u) := za5.mv (fun k hk => (za2 k (by unfold txc at hk; omega)).symm) (fun _ _ => rfl)
          refine xv_lconst (v := lN 1) (q := 27) rfl dX6_mean_26 rfl ?_
          refine xv_lstore_n (q := 28) rfl dX6_mean_27 rfl rfl ?_
          refine xv_iconst (v := nI 0) (q := 29) rfl dX6_mean_28 rfl ?_
          refine xv_istore (q := 31) rfl dX6_mean_29 rfl ?_
          refine c_hun_loop za6 ((congrFun (za2 1 (by decide)) 7).trans hn) hn5 w part (fun l5 => ?_) (n + 1) 0 (by omega) (by omega)
          refine xv_lconst (v := lN 0) (q := 56) rfl dX6_mean_55 rfl ?_
          refine xv_lstore (q := 58) rfl dX6_mean_56 rfl ?_
          refine xv_iconst (v := nI 0) (q := 59) rfl dX6_mean_58 rfl ?_
          refine xv_istore (q := 61) rfl dX6_mean_59 rfl ?_
          exact c_mean_loop za6 hK hKT za7 w part za1 (2 ^ n + 1) 0 J none none (Nat.zero_le _) (by rw [Nat.zero_add]; exact Nat.lt_succ_self _) za2 za3.tw
        · refine xv_ldc2 (q := 21) rfl dX6_mean_18 k_X6_195 ?_
          refine xv_lret dX6_mean_21 rfl ?_
          rw [show sp_mean n c dd (tvx tx u) w part = -4611686018427387904 from if_pos (Or.inr (Or.inr (Or.inr h15)))]
          exact QTr.rf
end MEAN

/-! the model: lowest terms, mean -/
section MMEAN
variable {E : XE} {d : Nat} {sh : XSh} {I : XI} {R : XRf} {L : XL} {n dd : Nat} {c : CR} {tc u : Nat} {tx : TXS} {tv : TV}
theorem m_low_loop {above below : Nat} (ha : above < 2 ^ 63) (zhb : below < 2 ^ 63) (part : Int32) : ∀ (k x y : Nat) (l9 l10 : Option Value), y < k → x < 2 ^ 63 → y < 2 ^ 63 → 0 < Nat.gcd x y → Nat.gcd x y = Nat.gcd above below → XV E mX7_lowest d 0 0 (xq (some (.long (lN (lwt above below part)))) sh I R L) 0 0 6 [some (.long (lN above)), none, some (.long (lN below)), none, some (.int part), some (.long (lN x)), none, some (.long (lN y)), none, l9, l10] [] sh I R L := by
  intro k
  induction k with
  | zero => intro x y l9 l10 h; exact absurd h (Nat.not_lt_zero _)
  | succ k ih =>
    intro x y l9 l10 hk zhx zhy zh0 hgg
    refine xv_lload (q := 8) rfl dX7_lowest_6 rfl ?_
    refine xv_lconst (v := lN 0) (q := 9) rfl dX7_lowest_8 rfl ?_
    refine xv_lcmp (q := 10) rfl dX7_lowest_9 ?_
    refine xv_if_eq (q := 13) (t := 31) rfl rfl dX7_lowest_10 (fun h10 => ?_) (fun h10 => ?_)
    · have h10 : y = 0 := lN_0 zhy ((lg_cmp_eq _ _).mp h10)
      subst h10
      rw [Nat.gcd_zero_right] at zh0 hgg
      refine xv_iload (q := 33) rfl dX7_lowest_31 rfl ?_
      refine xv_if_ne (q := 36) (t := 43) rfl rfl dX7_lowest_33 (fun h33 => ?_) (fun h33 => ?_)
      · refine xv_lload_n (q := 44) rfl dX7_lowest_43 rfl rfl ?_
        refine xv_lload (q := 46) rfl dX7_lowest_44 rfl ?_
        refine xv_ldiv (q := 47) rfl dX7_lowest_46 (lN_n0 zh0 zhx) ?_
        refine xv_asl (w := lN (below / x)) (pk_lDiv zhb zh0 zhx) ?_
        refine xv_lret dX7_lowest_47 rfl ?_
        exact ⟨by unfold lwt; rw [if_neg h33, hgg], rfl, rfl, rfl, rfl⟩
      · refine xv_lload_n (q := 37) rfl dX7_lowest_36 rfl rfl ?_
        refine xv_lload (q := 39) rfl dX7_lowest_37 rfl ?_
        refine xv_ldiv (q := 40) rfl dX7_lowest_39 (lN_n0 zh0 zhx) ?_
        refine xv_asl (w := lN (above / x)) (pk_lDiv ha zh0 zhx) ?_
        refine xv_goto (t := 47) rfl dX7_lowest_40 ?_
        refine xv_lret dX7_lowest_47 rfl ?_
        exact ⟨by unfold lwt; rw [if_pos h33, hgg], rfl, rfl, rfl, rfl⟩
    · have hy0 : 0 < y := Nat.pos_of_ne_zero (fun q => h10 ((lg_cmp_eq _ _).mpr (by rw [q])))
      have hml := Nat.mod_lt x hy0
      refine xv_lload (q := 15) rfl dX7_lowest_13 rfl ?_
      refine xv_lload (q := 17) rfl dX7_lowest_15 rfl ?_
      refine xv_lrem (q := 18) rfl dX7_lowest_17 (lN_n0 hy0 zhy) ?_
      refine xv_asl (w := lN (x % y)) (pk_lRem zhx hy0 zhy) ?_
      refine xv_lstore (q := 20) rfl dX7_lowest_18 rfl ?_
      refine xv_lload (q := 22) rfl dX7_lowest_20 rfl ?_
      refine xv_lstore (q := 24) rfl dX7_lowest_22 rfl ?_
      refine xv_lload (q := 26) rfl dX7_lowest_24 rfl ?_
      refine xv_lstore (q := 28) rfl dX7_lowest_26 rfl ?_
      refine xv_goto (t := 6) rfl dX7_lowest_28 ?_
      have hgy : Nat.gcd y (x % y) = Nat.gcd x y := by rw [Nat.gcd_comm y (x % y), ← Nat.gcd_rec, Nat.gcd_comm]
      exact ih y (x % y) _ _ (by omega) zhy (by omega) (by rw [hgy]; exact zh0) (hgy.trans hgg)
theorem m_low {above below : Nat} (ha : above < 2 ^ 63) (zhb : below < 2 ^ 63) (hb0 : 0 < below) (part : Int32) : XC E mX7_lowest d 0 0 [.long (lN above), .long (lN below), .int part] sh I R L (xq (some (.long (lN (lwt above below part)))) sh I R L) := by
  refine XC.of (by decide) rfl rfl ?_
  refine xv_lload_n (q := 1) rfl dX7_lowest_0 rfl rfl ?_
  refine xv_lstore (q := 3) rfl dX7_lowest_1 rfl ?_
  refine xv_lload_n (q := 4) rfl dX7_lowest_3 rfl rfl ?_
  refine xv_lstore (q := 6) rfl dX7_lowest_4 rfl ?_
  exact m_low_loop ha zhb part (below + 1) above below none none (Nat.lt_succ_self _) ha zhb (Nat.gcd_pos_of_pos_right _ hb0) rfl
theorem m_wgt_loop (hg : XG sh R) {J : XI} (hC : MCw J n c dd) {s : Nat} (zhs : s < 32) {w part : Int32} {a b : Int64} {Q : XQ} (KK : ∀ l10, XV E mX7_mean d 0 0 Q 0 0 126 [some (.ref 61), some (.int w), some (.int part), some (.long a), none, some (.long b), none, some (.int (nI s)), some (.long (lN (wgt c s n))), none, l10] [] sh J R L) : ∀ (k r : Nat), r ≤ n → n < r + k → XV E mX7_mean d 0 0 Q 0 0 73 [some (.ref 61), some (.int w), some (.int part), some (.long a), none, some (.long b), none, some (.int (nI s)), some (.long (lN (wgt c s r))), none, some (.int (nI r))] [] sh J R L := by
  intro k
  induction k with
  | zero => intro r zh1 zh2; exact absurd zh2 (by omega)
  | succ k ih =>
    intro r zh1 zh2
    obtain ⟨hm, hn, hn5, hd, hdd, hw⟩ := id hC
    refine xv_iload (q := 75) rfl dX7_mean_73 rfl ?_
    refine xv_aload_n (q := 76) rfl dX7_mean_75 rfl rfl ?_
    refine xv_geti (q := 79) rfl dX7_mean_76 f_X7_88 (hg.1 _ _ rfl) ?_
    rw [hn]
    refine xv_icmp_ge (q := 82) (t := 126) rfl rfl dX7_mean_79 (fun h79 => ?_) (fun h79 => ?_)
    · have h79 := nIle h79 (by omega) (by omega)
      obtain rfl : r = n := by omega
      exact KK _
    · have h79 : r < n := nInle h79 (by omega) (by omega)
      have zh6 := (hw r h79).2.2.2.2.2.2.1
      refine xv_lload (q := 84) rfl dX7_mean_82 rfl ?_
      refine xv_iload (q := 86) rfl dX7_mean_84 rfl ?_
      refine xv_iload (q := 88) rfl dX7_mean_86 rfl ?_
      refine xv_ishr (q := 89) rfl dX7_mean_88 ?_
      refine xv_iconst (v := nI 1) (q := 90) rfl dX7_mean_89 rfl ?_
      refine xv_iand (q := 91) rfl dX7_mean_90 ?_
      refine xv_as (w := nI (b01 (s.testBit r))) (shb s zhs r (by omega)) ?_
      refine xv_iconst (v := nI 1) (q := 92) rfl dX7_mean_91 rfl ?_
      refine xv_icmp_ne (q := 95) (t := 106) rfl rfl dX7_mean_92 (fun h92 => ?_) (fun h92 => ?_)
      · have hbit := b1n h92
        refine xv_bipush (v := nI 100) (q := 108) rfl dX7_mean_106 rfl ?_
        refine xv_aload_n (q := 109) rfl dX7_mean_108 rfl rfl ?_
        refine xv_geta (q := 112) rfl dX7_mean_109 f_X7_44 (hg.1 _ _ rfl) (hg.2 _ _ _ rfl) ?_
        refine xv_iload (q := 114) rfl dX7_mean_112 rfl ?_
        refine xv_iald (q := 115) rfl dX7_mean_114 (hg.1 _ _ rfl) rfl (by omega) (by decide) ?_
        refine xv_as (w := nI (c 6 r)) (hm 6 r (by decide) h79) ?_
        refine xv_isub (q := 116) rfl dX7_mean_115 ?_
        refine xv_as (w := nI (100 - c 6 r)) (pk_sub (by omega)) ?_
        refine xv_i2l (q := 117) rfl dX7_mean_116 ?_
        refine xv_asl (w := lN (100 - c 6 r)) (nI_l (by omega)) ?_
        refine xv_lmul (q := 118) rfl dX7_mean_117 ?_
        refine xv_asl (w := lN (wgt c s r * (100 - c 6 r))) (lN_mul _ _) ?_
        refine xv_lstore (q := 120) rfl dX7_mean_118 rfl ?_
        refine xv_iinc (q := 123) (v := nI 1) rfl dX7_mean_120 rfl rfl ?_
        refine xv_goto (t := 73) rfl dX7_mean_123 ?_
        rw [nI_add]
        have zhz := ih (r + 1) (by omega) (by omega)
        rw [show wgt c s (r + 1) = wgt c s r * (100 - c 6 r) from by show _ * (if _ then _ else _) = _; rw [if_neg (by rw [hbit]; decide)]] at zhz
        exact zhz
      · have hbit := b1e h92
        refine xv_aload_n (q := 96) rfl dX7_mean_95 rfl rfl ?_
        refine xv_geta (q := 99) rfl dX7_mean_96 f_X7_44 (hg.1 _ _ rfl) (hg.2 _ _ _ rfl) ?_
        refine xv_iload (q := 101) rfl dX7_mean_99 rfl ?_
        refine xv_iald (q := 102) rfl dX7_mean_101 (hg.1 _ _ rfl) rfl (by omega) (by decide) ?_
        refine xv_as (w := nI (c 6 r)) (hm 6 r (by decide) h79) ?_
        refine xv_i2l (q := 103) rfl dX7_mean_102 ?_
        refine xv_asl (w := lN (c 6 r)) (nI_l (by omega)) ?_
        refine xv_goto (t := 117) rfl dX7_mean_103 ?_
        refine xv_lmul (q := 118) rfl dX7_mean_117 ?_
        refine xv_asl (w := lN (wgt c s r * (c 6 r))) (lN_mul _ _) ?_
        refine xv_lstore (q := 120) rfl dX7_mean_118 rfl ?_
        refine xv_iinc (q := 123) (v := nI 1) rfl dX7_mean_120 rfl rfl ?_
        refine xv_goto (t := 73) rfl dX7_mean_123 ?_
        rw [nI_add]
        have zhz := ih (r + 1) (by omega) (by omega)
        rw [show wgt c s (r + 1) = wgt c s r * (c 6 r) from by show _ * (if _ then _ else _) = _; rw [if_pos hbit]] at zhz
        exact zhz
theorem m_pow_loop (hg : XG sh R) (hn : I 61 15 = nI n) (hn5 : n ≤ 5) {w part : Int32} {a : Int64} {l8 l9 l10 : Option Value} {Q : XQ} (KK : XV E mX7_mean d 0 0 Q 0 0 55 [some (.ref 61), some (.int w), some (.int part), some (.long a), none, some (.long (lN (100 ^ n))), none, some (.int (nI n)), l8, l9, l10] [] sh I R L) : ∀ (k r : Nat), r ≤ n → n < r + k → XV E mX7_mean d 0 0 Q 0 0 32 [some (.ref 61), some (.int w), some (.int part), some (.long a), none, some (.long (lN (100 ^ r))), none, some (.int (nI r)), l8, l9, l10] [] sh I R L := by
  intro k
  induction k with
  | zero => intro r zh1 zh2; exact absurd zh2 (by omega)
  | succ k ih =>
    intro r zh1 zh2
    refine xv_iload (q := 34) rfl dX7_mean_32 rfl ?_
    refine xv_aload_n (q := 35) rfl dX7_mean_34 rfl rfl ?_
    refine xv_geti (q := 38) rfl dX7_mean_35 f_X7_88 (hg.1 _ _ rfl) ?_
    rw [hn]
    refine xv_icmp_ge (q := 41) (t := 55) rfl rfl dX7_mean_38 (fun h38 => ?_) (fun h38 => ?_)
    · have h38 := nIle h38 (by omega) (by omega)
      obtain rfl : r = n := by omega
      exact KK
    · have h38 : r < n := nInle h38 (by omega) (by omega)
      refine xv_lload (q := 43) rfl dX7_mean_41 rfl ?_
      refine xv_ldc2 (q := 46) rfl dX7_mean_43 k_X7_110 ?_
      rw [show (100 : Int64) = lN 100 from rfl]
      refine xv_lmul (q := 47) rfl dX7_mean_46 ?_
      refine xv_asl (w := lN (100 ^ r * 100)) (lN_mul _ _) ?_
      refine xv_lstore (q := 49) rfl dX7_mean_47 rfl ?_
      refine xv_iinc (q := 52) (v := nI 1) rfl dX7_mean_49 rfl rfl ?_
      refine xv_goto (t := 32) rfl dX7_mean_52 ?_
      rw [nI_add]
      have zhz := ih (r + 1) (by omega) (by omega)
      rw [Nat.pow_succ] at zhz
      exact zhz
theorem m_mean_loop (hg : XG sh R) (hK : MKc I n c dd u) (hT : MTX I tc tx) (hu : u < tc) {w part : Int32} : ∀ (k s : Nat) (J : XI) (L' : XL) (l8 l9 l10 : Option Value), s ≤ 2 ^ n → 2 ^ n < s + k → FGr I J → FL L L' → XV E mX7_mean (d + 46) 0 0 (QMq n (.long (lN (lwt (mns c n dd (tvx tx u) w (2 ^ n)) (100 ^ n) part))) sh I R L) 0 0 58 [some (.ref 61), some (.int w), some (.int part), some (.long (lN (mns c n dd (tvx tx u) w s))), none, some (.long (lN (100 ^ n))), none, some (.int (nI s)), l8, l9, l10] [] sh J R L' := by
  have hn5 := hK.2.2.1
  have hwf := hK.cw.2.2.2.2.2
  have h32 : 2 ^ n ≤ 32 := show 2 ^ n ≤ 2 ^ 5 from Nat.pow_le_pow_right (by decide) hn5
  have h1p := Nat.two_pow_pos n
  intro k
  induction k with
  | zero => intro s J L' l8 l9 l10 zh1 zh2; exact absurd zh2 (by omega)
  | succ k ih =>
    intro s J L' l8 l9 l10 zh1 zh2 hF hL
    have hn : J 61 15 = nI n := (hF.2 15 (by decide)).trans hK.2.1
    have hms := mns_le (dd := dd) (tv := tvx tx u) (what := w) hwf hn5 s
    have hwl := wgt_5 (s := s) hwf hn5
    refine xv_iload (q := 60) rfl dX7_mean_58 rfl ?_
    refine xv_aload_n (q := 61) rfl dX7_mean_60 rfl rfl ?_
    refine xv_cV0 (z := mX7_allRiders) (q := 64) rfl dX7_mean_61 l_X7_291 gX7_allRiders (hg.1 _ _ rfl) rfl rfl rfl (m_all (d := d) hg hn hn5) (by omega) ?_
    refine xv_icmp_gt (q := 67) (t := 179) rfl rfl dX7_mean_64 (fun h64 => ?_) (fun h64 => ?_)
    · have h64 := nIlt h64 (by show 2 ^ n - 1 < 2 ^ 31; omega) (by omega)
      have h64 : s = 2 ^ n := by have h65 : 2 ^ n - 1 < s := h64; omega
      subst h64
      refine xv_lload_n (q := 180) rfl dX7_mean_179 rfl rfl ?_
      refine xv_lload (q := 182) rfl dX7_mean_180 rfl ?_
      refine xv_iload_n (q := 183) rfl dX7_mean_182 rfl rfl ?_
      refine xv_cS3 (z := mX7_lowest) (q := 186) rfl dX7_mean_183 l_X7_325 gX7_lowest rfl (m_low (d := d) (show mns c n dd (tvx tx u) w (2 ^ n) < 2 ^ 63 by omega) (show 100 ^ n < 2 ^ 63 from Nat.lt_of_le_of_lt (show 100 ^ n ≤ 100 ^ 5 from Nat.pow_le_pow_right (by decide) hn5) (by decide)) (Nat.pow_pos (by decide)) part) (by omega) ?_
      refine xv_lret dX7_mean_186 rfl ?_
      exact ⟨rfl, rfl, rfl, hF.q, hL⟩
    · have h64 := nInlt h64 (by show 2 ^ n - 1 < 2 ^ 31; omega) (by omega)
      have h64 : s < 2 ^ n := by have h65 : s ≤ 2 ^ n - 1 := h64; omega
      refine xv_lconst (v := lN 1) (q := 68) rfl dX7_mean_67 rfl ?_
      refine xv_lstore (q := 70) rfl dX7_mean_68 rfl ?_
      refine xv_iconst (v := nI 0) (q := 71) rfl dX7_mean_70 rfl ?_
      refine xv_istore (q := 73) rfl dX7_mean_71 rfl ?_
      refine m_wgt_loop (d := d + 46) hg (hF.cw hK.cw) (show s < 32 by omega) (fun l10 => ?_) (n + 1) 0 (by omega) (by omega)
      refine xv_lload (q := 128) rfl dX7_mean_126 rfl ?_
      refine xv_lconst (v := lN 0) (q := 129) rfl dX7_mean_128 rfl ?_
      refine xv_lcmp (q := 130) rfl dX7_mean_129 ?_
      refine xv_if_le (q := 133) (t := 173) rfl rfl dX7_mean_130 (fun h130 => ?_) (fun h130 => ?_)
      · have h130 : wgt c s n = 0 := by
          have := (pk_lLE (b := 0) (by omega) (by decide)).mp ((lg_cmp_le _ _).mp h130)
          omega
        refine xv_iinc (q := 176) (v := nI 1) rfl dX7_mean_173 rfl rfl ?_
        refine xv_goto (t := 58) rfl dX7_mean_176 ?_
        rw [nI_add]
        have zhz := fun l8 l9 l10 => ih (s + 1) J L' l8 l9 l10 (by omega) (by omega) hF hL
        rw [show mns c n dd (tvx tx u) w (s + 1) = mns c n dd (tvx tx u) w s from by show _ + wgt c s n * _ = _; rw [h130, Nat.zero_mul, Nat.add_zero]] at zhz
        exact zhz _ _ _
      · refine xv_aload_n (q := 134) rfl dX7_mean_133 rfl rfl ?_
        refine xv_iload (q := 136) rfl dX7_mean_134 rfl ?_
        refine xv_rV1 (z := mX7_gathers) (q := 139) rfl dX7_mean_136 l_X7_294 gX7_gathers (hg.1 _ _ rfl) rfl rfl rfl (m_gat (d := d) hg (hF.cw hK.cw) (hF.mtx hT) ((hF.2 4 (by decide)).trans hK.2.2.2.2.2.1) hu (show s < 32 by omega)) (by omega) ?_
        rintro _ _ J1 _ L1 ⟨rfl, rfl, rfl, hF1, hL1, hP1, hG1, -⟩
        have hL2 := hL.trans hL1
        refine xv_aload_n (q := 140) rfl dX7_mean_139 rfl rfl ?_
        refine xv_rV0 (z := mX7_rides) (q := 143) rfl dX7_mean_140 l_X7_298 gX7_rides (hg.1 _ _ rfl) rfl rfl rfl (m_rides (d := d) hg ((hF.trans hF1.r).cw hK.cw) hP1 (show s < 32 by omega) hG1) (by omega) ?_
        rintro _ _ J2 _ _ ⟨rfl, rfl, rfl, rfl, hF2a, h35, -⟩
        have hF2 : FGr I J2 := (hF.trans hF1.r).trans hF2a.r
        have hrd := rdc_le (dd := dd) (P := s) (tv := tvx tx u) (c := c) (n := n) (fun a ha => (hwf a ha).2.2.1) hn5
        have hsp := spk_le c n dd s hn5 10
        refine xv_istore (q := 145) rfl dX7_mean_143 rfl ?_
        refine xv_lload_n (q := 146) rfl dX7_mean_145 rfl rfl ?_
        refine xv_lload (q := 148) rfl dX7_mean_146 rfl ?_
        refine xv_iload_n (q := 149) rfl dX7_mean_148 rfl rfl ?_
        refine xv_if_ne (q := 152) (t := 157) rfl rfl dX7_mean_149 (fun h149 => ?_) (fun h149 => ?_)
        · refine xv_aload_n (q := 158) rfl dX7_mean_157 rfl rfl ?_
          refine xv_geti (q := 161) rfl dX7_mean_158 f_X7_279 (hg.1 _ _ rfl) ?_
          rw [h35]
          refine xv_if_ne (q := 164) (t := 168) rfl rfl dX7_mean_161 (fun h161 => ?_) (fun h161 => ?_)
          · have h161 : ¬ spk c n dd s 10 = 0 := fun q => h161 (by rw [q]; rfl)
            refine xv_iconst (v := nI 0) (q := 169) rfl dX7_mean_168 rfl ?_
            refine xv_i2l (q := 170) rfl dX7_mean_169 ?_
            refine xv_asl (w := lN 0) (nI_l (by decide)) ?_
            refine xv_lmul (q := 171) rfl dX7_mean_170 ?_
            refine xv_asl (w := lN (wgt c s n * 0)) (lN_mul _ _) ?_
            refine xv_ladd (q := 172) rfl dX7_mean_171 ?_
            refine xv_asl (w := lN (mns c n dd (tvx tx u) w s + wgt c s n * 0)) (lN_add _ _) ?_
            refine xv_lstore_n (q := 173) rfl dX7_mean_172 rfl rfl ?_
            refine xv_iinc (q := 176) (v := nI 1) rfl dX7_mean_173 rfl rfl ?_
            refine xv_goto (t := 58) rfl dX7_mean_176 ?_
            rw [nI_add]
            have zhz := fun l8 l9 l10 => ih (s + 1) J2 _ l8 l9 l10 (by omega) (by omega) hF2 hL2
            rw [show mns c n dd (tvx tx u) w (s + 1) = mns c n dd (tvx tx u) w s + wgt c s n * 0 from by show _ + _ * mnt c n dd (tvx tx u) w s = _; unfold mnt; rw [if_neg h149, if_neg h161]] at zhz
            exact zhz _ _ _
          · have h161 : spk c n dd s 10 = 0 := (nI_eq (b := 0) (by omega) (by decide)).mp h161
            refine xv_iconst (v := nI 1) (q := 165) rfl dX7_mean_164 rfl ?_
            refine xv_goto (t := 169) rfl dX7_mean_165 ?_
            refine xv_i2l (q := 170) rfl dX7_mean_169 ?_
            refine xv_asl (w := lN 1) (nI_l (by decide)) ?_
            refine xv_lmul (q := 171) rfl dX7_mean_170 ?_
            refine xv_asl (w := lN (wgt c s n * 1)) (lN_mul _ _) ?_
            refine xv_ladd (q := 172) rfl dX7_mean_171 ?_
            refine xv_asl (w := lN (mns c n dd (tvx tx u) w s + wgt c s n * 1)) (lN_add _ _) ?_
            refine xv_lstore_n (q := 173) rfl dX7_mean_172 rfl rfl ?_
            refine xv_iinc (q := 176) (v := nI 1) rfl dX7_mean_173 rfl rfl ?_
            refine xv_goto (t := 58) rfl dX7_mean_176 ?_
            rw [nI_add]
            have zhz := fun l8 l9 l10 => ih (s + 1) J2 _ l8 l9 l10 (by omega) (by omega) hF2 hL2
            rw [show mns c n dd (tvx tx u) w (s + 1) = mns c n dd (tvx tx u) w s + wgt c s n * 1 from by show _ + _ * mnt c n dd (tvx tx u) w s = _; unfold mnt; rw [if_neg h149, if_pos h161]] at zhz
            exact zhz _ _ _
        · refine xv_iload (q := 154) rfl dX7_mean_152 rfl ?_
          refine xv_goto (t := 169) rfl dX7_mean_154 ?_
          refine xv_i2l (q := 170) rfl dX7_mean_169 ?_
          refine xv_asl (w := lN (rdc c n dd s (tvx tx u))) (nI_l (by omega)) ?_
          refine xv_lmul (q := 171) rfl dX7_mean_170 ?_
          refine xv_asl (w := lN (wgt c s n * rdc c n dd s (tvx tx u))) (lN_mul _ _) ?_
          refine xv_ladd (q := 172) rfl dX7_mean_171 ?_
          refine xv_asl (w := lN (mns c n dd (tvx tx u) w s + wgt c s n * rdc c n dd s (tvx tx u))) (lN_add _ _) ?_
          refine xv_lstore_n (q := 173) rfl dX7_mean_172 rfl rfl ?_
          refine xv_iinc (q := 176) (v := nI 1) rfl dX7_mean_173 rfl rfl ?_
          refine xv_goto (t := 58) rfl dX7_mean_176 ?_
          rw [nI_add]
          have zhz := fun l8 l9 l10 => ih (s + 1) J2 _ l8 l9 l10 (by omega) (by omega) hF2 hL2
          rw [show mns c n dd (tvx tx u) w (s + 1) = mns c n dd (tvx tx u) w s + wgt c s n * rdc c n dd s (tvx tx u) from by show _ + _ * mnt c n dd (tvx tx u) w s = _; unfold mnt; rw [if_pos h149]] at zhz
          exact zhz _ _ _
theorem m_mean (hg : XG sh R) (hK : MKc I n c dd u) (hT : MTX I tc tx) (hu : u < tc) (w part : Int32) : XC E mX7_mean (d + 46) 0 0 [.ref 61, .int w, .int part] sh I R L (QMq n (.long (sp_mean n c dd (tvx tx u) w part)) sh I R L) := by
  refine XC.of (by decide) rfl rfl ?_
  refine xv_iload_n (q := 1) rfl dX7_mean_0 rfl rfl ?_
  refine xv_i2l (q := 2) rfl dX7_mean_1 ?_
  refine xv_lconst (v := lN 0) (q := 3) rfl dX7_mean_2 rfl ?_
  refine xv_lconst (v := lN 1) (q := 4) rfl dX7_mean_3 rfl ?_
  refine xv_cS3 (z := mX7_in) (q := 7) rfl dX7_mean_4 l_X7_91 gX7_in rfl (m_in (d := d) _ _ _) (by omega) ?_
  rw [lin_01]
  refine xv_if_eq (q := 10) (t := 20) rfl rfl dX7_mean_7 (fun zh7 => ?_) (fun zh7 => ?_)
  · have zh7 := of_decide_eq_true (Bool.not_eq_eq_eq_not.mp (bIz zh7))
    have hsp : sp_mean n c dd (tvx tx u) w part = -4611686018427387904 := if_pos (zh7.elim Or.inl (fun z => Or.inr (Or.inl (Int32.not_le.mp z))))
    rw [hsp]
    refine xv_ldc2 (q := 23) rfl dX7_mean_20 k_X7_323 ?_
    refine xv_lret dX7_mean_23 rfl ?_
    exact QMq.rf
  · have zh7 := of_decide_eq_false (Bool.not_eq_eq_eq_not.mp (bIn zh7))
    refine xv_iload_n (q := 11) rfl dX7_mean_10 rfl rfl ?_
    refine xv_i2l (q := 12) rfl dX7_mean_11 ?_
    refine xv_lconst (v := lN 0) (q := 13) rfl dX7_mean_12 rfl ?_
    refine xv_lconst (v := lN 1) (q := 14) rfl dX7_mean_13 rfl ?_
    refine xv_cS3 (z := mX7_in) (q := 17) rfl dX7_mean_14 l_X7_91 gX7_in rfl (m_in (d := d) _ _ _) (by omega) ?_
    rw [lin_01]
    refine xv_if_ne (q := 20) (t := 24) rfl rfl dX7_mean_17 (fun h17 => ?_) (fun h17 => ?_)
    · have h17 := of_decide_eq_false (Bool.not_eq_eq_eq_not.mp (bIn h17))
      have hsp : sp_mean n c dd (tvx tx u) w part = _ := if_neg (fun z => z.elim (fun z => zh7 (Or.inl z)) (fun z => z.elim (fun z => zh7 (Or.inr (fun q => absurd z (Int32.not_lt.mpr q)))) h17))
      rw [hsp]
      refine xv_lconst (v := lN 0) (q := 25) rfl dX7_mean_24 rfl ?_
      refine xv_lstore_n (q := 26) rfl dX7_mean_25 rfl rfl ?_
      refine xv_lconst (v := lN 1) (q := 27) rfl dX7_mean_26 rfl ?_
      refine xv_lstore (q := 29) rfl dX7_mean_27 rfl ?_
      refine xv_iconst (v := nI 0) (q := 30) rfl dX7_mean_29 rfl ?_
      refine xv_istore (q := 32) rfl dX7_mean_30 rfl ?_
      refine m_pow_loop (d := d + 46) hg hK.2.1 hK.2.2.1 ?_ (n + 1) 0 (by omega) (by omega)
      refine xv_iconst (v := nI 0) (q := 56) rfl dX7_mean_55 rfl ?_
      refine xv_istore (q := 58) rfl dX7_mean_56 rfl ?_
      exact m_mean_loop (d := d) hg hK hT hu (2 ^ n + 1) 0 I L none none none (Nat.zero_le _) (by omega) .rf .rf
    · have h17 := of_decide_eq_true (Bool.not_eq_eq_eq_not.mp (bIz h17))
      have hsp : sp_mean n c dd (tvx tx u) w part = -4611686018427387904 := if_pos (Or.inr (Or.inr h17))
      rw [hsp]
      refine xv_ldc2 (q := 23) rfl dX7_mean_20 k_X7_323 ?_
      refine xv_lret dX7_mean_23 rfl ?_
      exact QMq.rf
end MMEAN

/-! the model: chance -/
theorem lin_120 {x : Int32} : lin x.toInt64 (lN 1) 20 = !decide (x < nI 1 ∨ nI 20 < x) := by
  have hl := lin_iff (x := x) (a := lN 1) (b := 20)
  have ze1 : (lN 1).toInt = 1 := rfl
  have ze20 : (20 : Int64).toInt = 20 := rfl
  rw [ze1, ze20] at hl
  rw [Bool.eq_iff_iff, hl, Bool.not_eq_true', decide_eq_false_iff_not, Int32.lt_iff_toInt_lt, Int32.lt_iff_toInt_lt, nI_toInt (by decide), nI_toInt (by decide)]
  omega
section MCHANCE
variable {E : XE} {d : Nat} {sh : XSh} {I : XI} {R : XRf} {L : XL} {n dd : Nat} {c : CR} {tc u : Nat} {tx : TXS} {tv : TV}
theorem fst_tx {J : XI} (h : FSt I J) (hc : MTX I tc tx) : MTX J tc tx := hc.mv (h.2 3 (by decide)) (h.1 62 (by decide) (by decide) (by decide)) (h.1 63 (by decide) (by decide) (by decide))
theorem chg_lm {seed : Int32} : ∀ k, chg n c dd tv seed k ≤ k
  | 0 => Nat.le_refl 0
  | k + 1 => by
    show chg n c dd tv seed k + _ ≤ k + 1
    have := chg_lm (seed := seed) k
    split <;> omega
theorem m_cha_loop (hg : XG sh R) (hK : MKc I n c dd u) (hT : MTX I tc tx) (hu : u < tc) {seed part : Int32} {m : Nat} (hm : m ≤ 20) (hm0 : 0 < m) : ∀ (k i : Nat) (J : XI) (L' : XL), i ≤ m → m < i + k → FSt I J → MCw J n c dd → FL L L' → XV E mX7_chance (d + 47) 0 0 (QMq n (.long (lN (lwt (chg n c dd (tvx tx u) seed m) m part))) sh I R L) 0 0 46 [some (.ref 61), some (.int seed), some (.int (nI m)), some (.int part), some (.int (nI (rdc c n dd (aln n) (tvx tx u)))), some (.long (lN (chg n c dd (tvx tx u) seed i))), none, some (.int (nI i))] [] sh J R L' := by
  intro k
  induction k with
  | zero => intro i J L' zh1 zh2; exact absurd zh2 (by omega)
  | succ k ih =>
    intro i J L' zh1 zh2 hF hC hL
    have hcl := chg_lm (n := n) (c := c) (dd := dd) (tv := tvx tx u) (seed := seed) m
    have hrd := rdc_le (dd := dd) (P := aln n) (tv := tvx tx u) (c := c) (n := n) (fun a ha => (hC.2.2.2.2.2 a ha).2.2.1) hC.2.2.1
    refine xv_iload (q := 48) rfl dX7_chance_46 rfl ?_
    refine xv_iload_n (q := 49) rfl dX7_chance_48 rfl rfl ?_
    refine xv_icmp_ge (q := 52) (t := 81) rfl rfl dX7_chance_49 (fun h49 => ?_) (fun h49 => ?_)
    · have h49 := nIle h49 (by omega) (by omega)
      obtain rfl : i = m := by omega
      refine xv_lload (q := 83) rfl dX7_chance_81 rfl ?_
      refine xv_iload_n (q := 84) rfl dX7_chance_83 rfl rfl ?_
      refine xv_i2l (q := 85) rfl dX7_chance_84 ?_
      refine xv_asl (w := lN i) (nI_l (by omega)) ?_
      refine xv_iload_n (q := 86) rfl dX7_chance_85 rfl rfl ?_
      refine xv_cS3 (z := mX7_lowest) (q := 89) rfl dX7_chance_86 l_X7_325 gX7_lowest rfl (m_low (d := d) (show chg n c dd (tvx tx u) seed i < 2 ^ 63 by omega) (show i < 2 ^ 63 by omega) hm0 part) (by omega) ?_
      refine xv_lret dX7_chance_89 rfl ?_
      exact ⟨rfl, rfl, rfl, fmq_st hF (fun r hr => (hC.1 5 r (by decide) hr).trans (hK.1 5 r (by decide) hr).symm), hL⟩
    · have h49 := nInle h49 (by omega) (by omega)
      refine xv_lload (q := 54) rfl dX7_chance_52 rfl ?_
      refine xv_aload_n (q := 55) rfl dX7_chance_54 rfl rfl ?_
      refine xv_iload_n (q := 56) rfl dX7_chance_55 rfl rfl ?_
      refine xv_iload (q := 58) rfl dX7_chance_56 rfl ?_
      refine xv_iadd (q := 59) rfl dX7_chance_58 ?_
      refine xv_rV1 (z := mX7_draws) (q := 62) rfl dX7_chance_59 l_X7_345 gX7_draws (hg.1 _ _ rfl) rfl rfl rfl (m_draws (d := d) (I := I) hg hF hC (fst_tx hF hT) ((hF.2 4 (by decide)).trans hK.2.2.2.2.2.1) hu (seed + nI i)) (by omega) ?_
      rintro _ _ J1 _ L1 ⟨rfl, rfl, rfl, hL1, hX1⟩
      have hdr := rdc_le (dd := dd) (P := aln n) (tv := tvx tx u) (c := (drq c (seed + nI i) n).2) (n := n) (fun a ha => by rw [drq_sx c (seed + nI i) n 2 (by decide)]; exact (hC.2.2.2.2.2 a ha).2.2.1) hC.2.2.1
      have hdr : drc n c dd (tvx tx u) (seed + nI i) ≤ 10350 := hdr
      refine xv_iload (q := 64) rfl dX7_chance_62 rfl ?_
      refine xv_icmp_gt (q := 67) (t := 71) rfl rfl dX7_chance_64 (fun h64 => ?_) (fun h64 => ?_)
      · have h64 := nIlt h64 (by omega) (by omega)
        refine xv_lconst (v := lN 0) (q := 72) rfl dX7_chance_71 rfl ?_
        refine xv_ladd (q := 73) rfl dX7_chance_72 ?_
        refine xv_asl (w := lN (chg n c dd (tvx tx u) seed i + 0)) (lN_add _ _) ?_
        refine xv_lstore (q := 75) rfl dX7_chance_73 rfl ?_
        refine xv_iinc (q := 78) (v := nI 1) rfl dX7_chance_75 rfl rfl ?_
        refine xv_goto (t := 46) rfl dX7_chance_78 ?_
        rw [nI_add]
        have zhz := ih (i + 1) J1 L1 (by omega) (by omega) (hF.trans hX1.1) hX1.2.1 (hL.trans hL1)
        rw [show chg n c dd (tvx tx u) seed (i + 1) = chg n c dd (tvx tx u) seed i + 0 from by show _ + (if _ then _ else _) = _; rw [if_neg (by omega)]] at zhz
        exact zhz
      · have h64 := nInlt h64 (by omega) (by omega)
        refine xv_lconst (v := lN 1) (q := 68) rfl dX7_chance_67 rfl ?_
        refine xv_goto (t := 72) rfl dX7_chance_68 ?_
        refine xv_ladd (q := 73) rfl dX7_chance_72 ?_
        refine xv_asl (w := lN (chg n c dd (tvx tx u) seed i + 1)) (lN_add _ _) ?_
        refine xv_lstore (q := 75) rfl dX7_chance_73 rfl ?_
        refine xv_iinc (q := 78) (v := nI 1) rfl dX7_chance_75 rfl rfl ?_
        refine xv_goto (t := 46) rfl dX7_chance_78 ?_
        rw [nI_add]
        have zhz := ih (i + 1) J1 L1 (by omega) (by omega) (hF.trans hX1.1) hX1.2.1 (hL.trans hL1)
        rw [show chg n c dd (tvx tx u) seed (i + 1) = chg n c dd (tvx tx u) seed i + 1 from by show _ + (if _ then _ else _) = _; rw [if_pos h64]] at zhz
        exact zhz
theorem m_chance (hg : XG sh R) (hK : MKc I n c dd u) (hT : MTX I tc tx) (hu : u < tc) (seed m part : Int32) : XC E mX7_chance (d + 47) 0 0 [.ref 61, .int seed, .int m, .int part] sh I R L (QMq n (.long (sp_chance n c dd (tvx tx u) seed m part)) sh I R L) := by
  have hu4 := hK.2.2.2.2.2.1
  refine XC.of (by decide) rfl rfl ?_
  refine xv_iload_n (q := 1) rfl dX7_chance_0 rfl rfl ?_
  refine xv_i2l (q := 2) rfl dX7_chance_1 ?_
  refine xv_lconst (v := lN 1) (q := 3) rfl dX7_chance_2 rfl ?_
  refine xv_ldc2 (q := 6) rfl dX7_chance_3 k_X7_348 ?_
  refine xv_cS3 (z := mX7_in) (q := 9) rfl dX7_chance_6 l_X7_91 gX7_in rfl (m_in (d := d) _ _ _) (by omega) ?_
  rw [lin_120]
  refine xv_if_eq (q := 12) (t := 22) rfl rfl dX7_chance_9 (fun zh9 => ?_) (fun zh9 => ?_)
  · have zh9 := of_decide_eq_true (Bool.not_eq_eq_eq_not.mp (bIz zh9))
    have hsp : sp_chance n c dd (tvx tx u) seed m part = -4611686018427387904 := if_pos (zh9.elim Or.inl (fun z => Or.inr (Or.inl z)))
    rw [hsp]
    refine xv_ldc2 (q := 25) rfl dX7_chance_22 k_X7_323 ?_
    refine xv_lret dX7_chance_25 rfl ?_
    exact QMq.rf
  · have zh9 := of_decide_eq_false (Bool.not_eq_eq_eq_not.mp (bIn zh9))
    refine xv_iload_n (q := 13) rfl dX7_chance_12 rfl rfl ?_
    refine xv_i2l (q := 14) rfl dX7_chance_13 ?_
    refine xv_lconst (v := lN 0) (q := 15) rfl dX7_chance_14 rfl ?_
    refine xv_lconst (v := lN 1) (q := 16) rfl dX7_chance_15 rfl ?_
    refine xv_cS3 (z := mX7_in) (q := 19) rfl dX7_chance_16 l_X7_91 gX7_in rfl (m_in (d := d) _ _ _) (by omega) ?_
    rw [lin_01]
    refine xv_if_ne (q := 22) (t := 26) rfl rfl dX7_chance_19 (fun h19 => ?_) (fun h19 => ?_)
    · have h19 := of_decide_eq_false (Bool.not_eq_eq_eq_not.mp (bIn h19))
      have hsp : sp_chance n c dd (tvx tx u) seed m part = _ := if_neg (fun z => z.elim (fun z => zh9 (Or.inl z)) (fun z => z.elim (fun z => zh9 (Or.inr z)) h19))
      rw [hsp]
      obtain ⟨m, hm, rfl⟩ : ∃ j, j < 21 ∧ m = nI j := by
        rcases pk_ix m (n := 21) (by decide) with z | z | z
        · exact absurd (Or.inl (Int32.lt_of_lt_of_le z (by decide))) zh9
        · exact absurd (Or.inr (Int32.lt_of_lt_of_le (show nI 20 < nI 21 by decide) z)) zh9
        · exact z
      have hm0 : 0 < m := Nat.pos_of_ne_zero (fun z => zh9 (Or.inl (by rw [z]; decide)))
      rw [nI_clamp (n := m) (by omega)]
      refine xv_aload_n (q := 27) rfl dX7_chance_26 rfl rfl ?_
      refine xv_aload_n (q := 28) rfl dX7_chance_27 rfl rfl ?_
      refine xv_cV0 (z := mX7_allRiders) (q := 31) rfl dX7_chance_28 l_X7_291 gX7_allRiders (hg.1 _ _ rfl) rfl rfl rfl (m_all (d := d) hg hK.2.1 hK.2.2.1) (by omega) ?_
      refine xv_rV1 (z := mX7_gathers) (q := 34) rfl dX7_chance_31 l_X7_294 gX7_gathers (hg.1 _ _ rfl) rfl rfl rfl (m_gat (d := d) hg hK.cw hT hu4 hu (all_32 hK.2.2.1)) (by omega) ?_
      rintro _ _ J1 _ L1 ⟨rfl, rfl, rfl, hF1, hL1, hP1, hG1, -⟩
      refine xv_aload_n (q := 35) rfl dX7_chance_34 rfl rfl ?_
      refine xv_rV0 (z := mX7_rides) (q := 38) rfl dX7_chance_35 l_X7_298 gX7_rides (hg.1 _ _ rfl) rfl rfl rfl (m_rides (d := d) hg (hF1.cw hK.cw) hP1 (all_32 hK.2.2.1) hG1) (by omega) ?_
      rintro _ _ J2 _ _ ⟨rfl, rfl, rfl, rfl, hF2, -, -⟩
      refine xv_istore (q := 40) rfl dX7_chance_38 rfl ?_
      refine xv_lconst (v := lN 0) (q := 41) rfl dX7_chance_40 rfl ?_
      refine xv_lstore (q := 43) rfl dX7_chance_41 rfl ?_
      refine xv_iconst (v := nI 0) (q := 44) rfl dX7_chance_43 rfl ?_
      refine xv_istore (q := 46) rfl dX7_chance_44 rfl ?_
      exact m_cha_loop (d := d) hg hK hT hu (show m ≤ 20 by omega) hm0 (m + 1) 0 J2 _ (Nat.zero_le _) (by omega) (hF1.st.trans hF2.st) (hF2.cw (hF1.cw hK.cw)) hL1
    · have h19 := of_decide_eq_true (Bool.not_eq_eq_eq_not.mp (bIz h19))
      have hsp : sp_chance n c dd (tvx tx u) seed m part = -4611686018427387904 := if_pos (Or.inr (Or.inr h19))
      rw [hsp]
      refine xv_ldc2 (q := 25) rfl dX7_chance_22 k_X7_323 ?_
      refine xv_lret dX7_chance_25 rfl ?_
      exact QMq.rf
end MCHANCE

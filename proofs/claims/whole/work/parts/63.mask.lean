/-! the model: ride, floor -/
theorem lin_0n {x : Int32} {b : Int64} {k : Nat} (hk : k < 1000) (zhb : b.toInt = (k : Int)) : lin x.toInt64 (lN 0) b = !decide (x < 0 ∨ ¬ x ≤ nI k) := by
  have hl := lin_iff (x := x) (a := lN 0) (b := b)
  have ze0 : (lN 0).toInt = 0 := rfl
  rw [ze0, zhb] at hl
  rw [Bool.eq_iff_iff, hl, Bool.not_eq_true', decide_eq_false_iff_not, Int32.lt_iff_toInt_lt, Int32.le_iff_toInt_le, nI_toInt (by omega)]
  simp only [Int32.toInt_zero]
  omega
theorem il9 {f : Int32} : f < nI 10 ↔ f ≤ nI 9 := by
  rw [Int32.lt_iff_toInt_lt, Int32.le_iff_toInt_le, nI_toInt (by decide), nI_toInt (by decide)]
  omega
/-- a question leaves all that the law minds -/
def FMq (n : Nat) (I J : XI) : Prop := (∀ k, (k < 61 ∨ k = 62 ∨ k = 63 ∨ k = 64 ∨ k = 77 ∨ 78 ≤ k) → J k = I k) ∧ (∀ w r, w < 7 → r < n → J (65 + w) r = I (65 + w) r) ∧ ∀ j, (j < 16 ∨ 42 ≤ j) → J 61 j = I 61 j
theorem FMq.rf {n : Nat} {I : XI} : FMq n I I := ⟨fun _ _ => rfl, fun _ _ _ _ => rfl, fun _ _ => rfl⟩
theorem FMq.trans {n : Nat} {I J K : XI} (h : FMq n I J) (zh2 : FMq n J K) : FMq n I K := ⟨fun k a => (zh2.1 k a).trans (h.1 k a), fun w r a b => (zh2.2.1 w r a b).trans (h.2.1 w r a b), fun j a => (zh2.2.2 j a).trans (h.2.2 j a)⟩
theorem FGt.q {n : Nat} {I J : XI} (h : FGt I J) : FMq n I J := ⟨fun k hk => h.1 k (by omega) (by omega) (by omega) (by omega), fun w r hw _ => by rw [h.1 _ (by omega) (by omega) (by omega) (by omega)], fun j zhj => h.2 j (by omega) (by omega)⟩
theorem FRi.q {n : Nat} {I J : XI} (h : FRi I J) : FMq n I J := ⟨fun k hk => h.1 k (by omega), fun w r hw _ => by rw [h.1 _ (by omega)], fun j zhj => h.2 j (by omega) (by omega)⟩
/-- what a question answers -/
def QMq (n : Nat) (v0 : Value) (sh : XSh) (I : XI) (R : XRf) (L : XL) : XQ := fun v sh' J R' L' => v = some v0 ∧ sh' = sh ∧ R' = R ∧ FMq n I J ∧ FL L L'
theorem QMq.rf {n : Nat} {v0 : Value} {sh : XSh} {I : XI} {R : XRf} {L : XL} : QMq n v0 sh I R L (some v0) sh I R L := ⟨rfl, rfl, rfl, .rf, .rf⟩
theorem MKc.cw {I : XI} {n dd u : Nat} {c : CR} (h : MKc I n c dd u) : MCw I n c dd := ⟨h.1, h.2.1, h.2.2.1, h.2.2.2.1, h.2.2.2.2.1, h.2.2.2.2.2.2.1⟩
theorem aln_b {n i : Nat} (hn : n ≤ 5) (hi : i < n) : (aln n).testBit i = true := (by decide +kernel : ∀ n, n ≤ 5 → ∀ i, i < n → (aln n).testBit i = true) n hn i hi
section MASK
variable {E : XE} {d : Nat} {sh : XSh} {I : XI} {R : XRf} {L : XL} {n dd : Nat} {c : CR} {P : Nat} {tc u : Nat} {tx : TXS}
theorem m_ride (hg : XG sh R) (hK : MKc I n c dd u) (hT : MTX I tc tx) (hu : u < tc) (w : Int32) : XC E mX7_ride (d + 46) 0 0 [.ref 61, .int w] sh I R L (QMq n (.int (sp_ride n c dd (tvx tx u) w)) sh I R L) := by
  have hu4 := hK.2.2.2.2.2.1
  refine XC.of (by decide) rfl rfl ?_
  refine xv_iload_n (q := 1) rfl dX7_ride_0 rfl rfl ?_
  refine xv_i2l (q := 2) rfl dX7_ride_1 ?_
  refine xv_lconst (v := lN 0) (q := 3) rfl dX7_ride_2 rfl ?_
  refine xv_ldc2 (q := 6) rfl dX7_ride_3 k_X7_108 ?_
  refine xv_cS3 (z := mX7_in) (q := 9) rfl dX7_ride_6 l_X7_91 gX7_in rfl (m_in (d := d) _ _ _) (by omega) ?_
  rw [lin_0n (k := 2) (by decide) rfl]
  refine xv_if_ne (q := 12) (t := 15) rfl rfl dX7_ride_9 (fun zh9 => ?_) (fun zh9 => ?_)
  · have zh9 := of_decide_eq_false (Bool.not_eq_eq_eq_not.mp (bIn zh9))
    refine xv_aload_n (q := 16) rfl dX7_ride_15 rfl rfl ?_
    refine xv_aload_n (q := 17) rfl dX7_ride_16 rfl rfl ?_
    refine xv_cV0 (z := mX7_allRiders) (q := 20) rfl dX7_ride_17 l_X7_291 gX7_allRiders (hg.1 _ _ rfl) rfl rfl rfl (m_all (d := d) hg hK.2.1 hK.2.2.1) (by omega) ?_
    refine xv_rV1 (z := mX7_gathers) (q := 23) rfl dX7_ride_20 l_X7_294 gX7_gathers (hg.1 _ _ rfl) rfl rfl rfl (m_gat (d := d) hg hK.cw hT hu4 hu (all_32 hK.2.2.1)) (by omega) ?_
    rintro _ _ J1 _ L1 ⟨rfl, rfl, rfl, hF1, hL1, hP1, hG1, -⟩
    refine xv_aload_n (q := 24) rfl dX7_ride_23 rfl rfl ?_
    refine xv_rV0 (z := mX7_rides) (q := 27) rfl dX7_ride_24 l_X7_298 gX7_rides (hg.1 _ _ rfl) rfl rfl rfl (m_rides (d := d) hg (hF1.cw hK.cw) hP1 (all_32 hK.2.2.1) hG1) (by omega) ?_
    rintro _ _ J2 _ _ ⟨rfl, rfl, rfl, rfl, hF2, h35, h36⟩
    have hFq : FMq n I J2 := hF1.q.trans hF2.q
    refine xv_istore_n (q := 28) rfl dX7_ride_27 rfl rfl ?_
    refine xv_iload_n (q := 29) rfl dX7_ride_28 rfl rfl ?_
    refine xv_if_ne (q := 32) (t := 36) rfl rfl dX7_ride_29 (fun h29 => ?_) (fun h29 => ?_)
    · have h29 : ¬ w = 0 := h29
      refine xv_iload_n (q := 37) rfl dX7_ride_36 rfl rfl ?_
      refine xv_iconst (v := nI 1) (q := 38) rfl dX7_ride_37 rfl ?_
      refine xv_icmp_ne (q := 41) (t := 48) rfl rfl dX7_ride_38 (fun h38 => ?_) (fun h38 => ?_)
      · rw [show sp_ride n c dd (tvx tx u) w = _ from (if_neg zh9).trans ((if_neg h29).trans (if_neg h38))]
        refine xv_aload_n (q := 49) rfl dX7_ride_48 rfl rfl ?_
        refine xv_geti (q := 52) rfl dX7_ride_49 f_X7_282 (hg.1 _ _ rfl) ?_
        rw [h36]
        refine xv_iret dX7_ride_52 rfl ?_
        exact ⟨rfl, rfl, rfl, hFq, hL1⟩
      · rw [show sp_ride n c dd (tvx tx u) w = _ from (if_neg zh9).trans ((if_neg h29).trans (if_pos h38))]
        refine xv_aload_n (q := 42) rfl dX7_ride_41 rfl rfl ?_
        refine xv_geti (q := 45) rfl dX7_ride_42 f_X7_279 (hg.1 _ _ rfl) ?_
        rw [h35]
        refine xv_goto (t := 52) rfl dX7_ride_45 ?_
        refine xv_iret dX7_ride_52 rfl ?_
        exact ⟨rfl, rfl, rfl, hFq, hL1⟩
    · have h29 : w = 0 := h29
      rw [show sp_ride n c dd (tvx tx u) w = _ from (if_neg zh9).trans (if_pos h29)]
      refine xv_iload_n (q := 33) rfl dX7_ride_32 rfl rfl ?_
      refine xv_goto (t := 52) rfl dX7_ride_33 ?_
      refine xv_iret dX7_ride_52 rfl ?_
      exact ⟨rfl, rfl, rfl, hFq, hL1⟩
  · have zh9 := of_decide_eq_true (Bool.not_eq_eq_eq_not.mp (bIz zh9))
    rw [show sp_ride n c dd (tvx tx u) w = -2 from if_pos zh9]
    refine xv_bipush (v := (-2)) (q := 14) rfl dX7_ride_12 rfl ?_
    refine xv_iret dX7_ride_14 rfl ?_
    exact QMq.rf
def rgq (c : CR) (f : Nat) : Nat → Bool := fun r => decide (c 3 r ≤ f) && decide (f < c 4 r)
theorem rgq_e (hn : n ≤ 5) (hw : wfn c n) (f : Nat) : bm (rgq c f) n = sty c n (aln n) f ||| gin c n (aln n) f := by
  unfold sty gin
  rw [bm_or]
  refine bm_cong (fun i hi => ?_)
  have := (hw i hi).2.2.2.2.2.2.2
  unfold rgq stp gip
  rw [aln_b hn hi, Bool.true_and, Bool.true_and, Bool.eq_iff_iff]
  simp only [Bool.and_eq_true, Bool.or_eq_true, decide_eq_true_iff]
  omega
theorem m_goes_loop (hg : XG sh R) (h : MCw I n c dd) {f : Nat} (hf : f < 10) {Q : XQ} {l2 l3 : Int32} (hQ : Q (some (.int (nI (bm (rgq c f) n)))) sh I R L) : ∀ (k o : Nat), o ≤ n → n < o + k → XV E mX7_floor d 0 0 Q 0 0 67 [some (.ref 61), some (.int (nI f)), some (.int l2), some (.int l3), some (.int (nI (bm (rgq c f) o))), some (.int (nI o))] [] sh I R L := by
  intro k
  induction k with
  | zero => intro o zh1 zh2; exact absurd zh2 (by omega)
  | succ k ih =>
    intro o zh1 zh2
    obtain ⟨hm, hn, hn5, hd, hdd, hw⟩ := id h
    refine xv_iload (q := 69) rfl dX7_floor_67 rfl ?_
    refine xv_aload_n (q := 70) rfl dX7_floor_69 rfl rfl ?_
    refine xv_geti (q := 73) rfl dX7_floor_70 f_X7_88 (hg.1 _ _ rfl) ?_
    rw [hn]
    refine xv_icmp_ge (q := 76) (t := 117) rfl rfl dX7_floor_73 (fun h73 => ?_) (fun h73 => ?_)
    · have h73 := nIle h73 (by omega) (by omega)
      obtain rfl : o = n := by omega
      refine xv_iload (q := 119) rfl dX7_floor_117 rfl ?_
      refine xv_iret dX7_floor_119 rfl ?_
      exact hQ
    · have h73 : o < n := nInle h73 (by omega) (by omega)
      obtain ⟨zw0, zw1, zw2, zw3, zw4, zw5, zw6, w7⟩ := hw o h73
      refine xv_iload (q := 78) rfl dX7_floor_76 rfl ?_
      refine xv_aload_n (q := 79) rfl dX7_floor_78 rfl rfl ?_
      refine xv_geta (q := 82) rfl dX7_floor_79 f_X7_35 (hg.1 _ _ rfl) (hg.2 _ _ _ rfl) ?_
      refine xv_iload (q := 84) rfl dX7_floor_82 rfl ?_
      refine xv_iald (q := 85) rfl dX7_floor_84 (hg.1 _ _ rfl) rfl (by omega) (by decide) ?_
      refine xv_as (w := nI (c 3 o)) (hm 3 o (by decide) h73) ?_
      refine xv_iload_n (q := 86) rfl dX7_floor_85 rfl rfl ?_
      refine xv_icmp_gt (q := 89) (t := 104) rfl rfl dX7_floor_86 (fun h86 => ?_) (fun h86 => ?_)
      · have h86 : f < c 3 o := nIlt h86 (by omega) (by omega)
        refine xv_iconst (v := nI 0) (q := 105) rfl dX7_floor_104 rfl ?_
        refine xv_iload (q := 107) rfl dX7_floor_105 rfl ?_
        refine xv_ishl (q := 108) rfl dX7_floor_107 ?_
        refine xv_as (w := nI 0) (sh0 o (by omega)) ?_
        refine xv_ior (q := 109) rfl dX7_floor_108 ?_
        refine xv_as (w := nI (bm (rgq c f) o ||| 0)) (nI_or _ _) ?_
        refine xv_istore (q := 111) rfl dX7_floor_109 rfl ?_
        refine xv_iinc (q := 114) (v := nI 1) rfl dX7_floor_111 rfl rfl ?_
        have zhq : rgq c f o = false := by unfold rgq; rw [decide_eq_false (show ¬ c 3 o ≤ f by omega)]; rfl
        refine xv_goto (t := 67) rfl dX7_floor_114 ?_
        have zhz := ih (o + 1) (by omega) (by omega)
        rw [bm_s, zhq] at zhz
        rw [nI_add]
        exact zhz
      · have h86 : c 3 o ≤ f := nInlt h86 (by omega) (by omega)
        refine xv_aload_n (q := 90) rfl dX7_floor_89 rfl rfl ?_
        refine xv_geta (q := 93) rfl dX7_floor_90 f_X7_38 (hg.1 _ _ rfl) (hg.2 _ _ _ rfl) ?_
        refine xv_iload (q := 95) rfl dX7_floor_93 rfl ?_
        refine xv_iald (q := 96) rfl dX7_floor_95 (hg.1 _ _ rfl) rfl (by omega) (by decide) ?_
        refine xv_as (w := nI (c 4 o)) (hm 4 o (by decide) h73) ?_
        refine xv_iload_n (q := 97) rfl dX7_floor_96 rfl rfl ?_
        refine xv_icmp_le (q := 100) (t := 104) rfl rfl dX7_floor_97 (fun h97 => ?_) (fun h97 => ?_)
        · have h97 : c 4 o ≤ f := nIle h97 (by omega) (by omega)
          refine xv_iconst (v := nI 0) (q := 105) rfl dX7_floor_104 rfl ?_
          refine xv_iload (q := 107) rfl dX7_floor_105 rfl ?_
          refine xv_ishl (q := 108) rfl dX7_floor_107 ?_
          refine xv_as (w := nI 0) (sh0 o (by omega)) ?_
          refine xv_ior (q := 109) rfl dX7_floor_108 ?_
          refine xv_as (w := nI (bm (rgq c f) o ||| 0)) (nI_or _ _) ?_
          refine xv_istore (q := 111) rfl dX7_floor_109 rfl ?_
          refine xv_iinc (q := 114) (v := nI 1) rfl dX7_floor_111 rfl rfl ?_
          have zhq : rgq c f o = false := by unfold rgq; rw [decide_eq_false (show ¬ f < c 4 o by omega), Bool.and_false]
          refine xv_goto (t := 67) rfl dX7_floor_114 ?_
          have zhz := ih (o + 1) (by omega) (by omega)
          rw [bm_s, zhq] at zhz
          rw [nI_add]
          exact zhz
        · have h97 : f < c 4 o := nInle h97 (by omega) (by omega)
          refine xv_iconst (v := nI 1) (q := 101) rfl dX7_floor_100 rfl ?_
          refine xv_goto (t := 105) rfl dX7_floor_101 ?_
          refine xv_iload (q := 107) rfl dX7_floor_105 rfl ?_
          refine xv_ishl (q := 108) rfl dX7_floor_107 ?_
          refine xv_as (w := nI (2 ^ o)) (sh1 o (by omega)) ?_
          refine xv_ior (q := 109) rfl dX7_floor_108 ?_
          refine xv_as (w := nI (bm (rgq c f) o ||| 2 ^ o)) (nI_or _ _) ?_
          refine xv_istore (q := 111) rfl dX7_floor_109 rfl ?_
          refine xv_iinc (q := 114) (v := nI 1) rfl dX7_floor_111 rfl rfl ?_
          have zhq : rgq c f o = true := by unfold rgq; rw [decide_eq_true h86, decide_eq_true h97]; rfl
          refine xv_goto (t := 67) rfl dX7_floor_114 ?_
          have zhz := ih (o + 1) (by omega) (by omega)
          rw [bm_s, zhq] at zhz
          rw [nI_add]
          exact zhz
theorem m_floor (hg : XG sh R) (hK : MKc I n c dd u) (hT : MTX I tc tx) (hu : u < tc) (f w : Int32) : XC E mX7_floor (d + 46) 0 0 [.ref 61, .int f, .int w] sh I R L (QMq n (.int (sp_floor n c dd (tvx tx u) f w)) sh I R L) := by
  have hu4 := hK.2.2.2.2.2.1
  have hn5 := hK.2.2.1
  have hwf := hK.cw.2.2.2.2.2
  refine XC.of (by decide) rfl rfl ?_
  refine xv_iload_n (q := 1) rfl dX7_floor_0 rfl rfl ?_
  refine xv_i2l (q := 2) rfl dX7_floor_1 ?_
  refine xv_lconst (v := lN 0) (q := 3) rfl dX7_floor_2 rfl ?_
  refine xv_ldc2 (q := 6) rfl dX7_floor_3 k_X7_112 ?_
  refine xv_cS3 (z := mX7_in) (q := 9) rfl dX7_floor_6 l_X7_91 gX7_in rfl (m_in (d := d) _ _ _) (by omega) ?_
  rw [lin_0n (k := 9) (by decide) rfl]
  refine xv_if_eq (q := 12) (t := 24) rfl rfl dX7_floor_9 (fun zh9 => ?_) (fun zh9 => ?_)
  · have zh9 := of_decide_eq_true (Bool.not_eq_eq_eq_not.mp (bIz zh9))
    refine xv_bipush (v := (-2)) (q := 26) rfl dX7_floor_24 rfl ?_
    refine xv_iret dX7_floor_26 rfl ?_
    rw [show sp_floor n c dd (tvx tx u) f w = -2 from if_pos (zh9.elim Or.inl (fun z => Or.inr (Or.inl (fun q => z (il9.mp q)))))]
    exact QMq.rf
  · have zh9 := of_decide_eq_false (Bool.not_eq_eq_eq_not.mp (bIn zh9))
    refine xv_iload_n (q := 13) rfl dX7_floor_12 rfl rfl ?_
    refine xv_i2l (q := 14) rfl dX7_floor_13 ?_
    refine xv_lconst (v := lN 0) (q := 15) rfl dX7_floor_14 rfl ?_
    refine xv_ldc2 (q := 18) rfl dX7_floor_15 k_X7_108 ?_
    refine xv_cS3 (z := mX7_in) (q := 21) rfl dX7_floor_18 l_X7_91 gX7_in rfl (m_in (d := d) _ _ _) (by omega) ?_
    rw [lin_0n (k := 2) (by decide) rfl]
    refine xv_if_ne (q := 24) (t := 27) rfl rfl dX7_floor_21 (fun h21 => ?_) (fun h21 => ?_)
    · have h21 := of_decide_eq_false (Bool.not_eq_eq_eq_not.mp (bIn h21))
      obtain ⟨f, hf, rfl⟩ : ∃ j, j < 10 ∧ f = nI j := by
        rcases pk_ix f (n := 10) (by decide) with z | z | z
        · exact absurd (Or.inl z) zh9
        · exact absurd (Or.inr (fun q => Int32.not_lt.mpr z (il9.mpr q))) zh9
        · exact z
      have hsp : sp_floor n c dd (tvx tx u) (nI f) w = _ := if_neg (fun z => z.elim (fun z => zh9 (Or.inl z)) (fun z => z.elim (fun z => z (show nI f < nI 10 from nI_lt hf (by decide))) (fun z => h21 z)))
      rw [hsp, nI_clamp (n := f) (by omega)]
      refine xv_aload_n (q := 28) rfl dX7_floor_27 rfl rfl ?_
      refine xv_aload_n (q := 29) rfl dX7_floor_28 rfl rfl ?_
      refine xv_cV0 (z := mX7_allRiders) (q := 32) rfl dX7_floor_29 l_X7_291 gX7_allRiders (hg.1 _ _ rfl) rfl rfl rfl (m_all (d := d) hg hK.2.1 hK.2.2.1) (by omega) ?_
      refine xv_rV1 (z := mX7_gathers) (q := 35) rfl dX7_floor_32 l_X7_294 gX7_gathers (hg.1 _ _ rfl) rfl rfl rfl (m_gat (d := d) hg hK.cw hT hu4 hu (all_32 hK.2.2.1)) (by omega) ?_
      rintro _ _ J1 _ L1 ⟨rfl, rfl, rfl, hF1, hL1, hP1, hG1, -⟩
      refine xv_aload_n (q := 36) rfl dX7_floor_35 rfl rfl ?_
      refine xv_iload_n (q := 37) rfl dX7_floor_36 rfl rfl ?_
      refine xv_cV1 (z := mX7_stepsAt) (q := 40) rfl dX7_floor_37 l_X7_285 gX7_stepsAt (hg.1 _ _ rfl) rfl rfl rfl (m_steps (d := d) hg (hF1.cw hK.cw) hP1 (all_32 hK.2.2.1) hf) (by omega) ?_
      refine xv_istore_n (q := 41) rfl dX7_floor_40 rfl rfl ?_
      refine xv_iload_n (q := 42) rfl dX7_floor_41 rfl rfl ?_
      refine xv_iconst (v := nI 2) (q := 43) rfl dX7_floor_42 rfl ?_
      refine xv_icmp_ge (q := 46) (t := 61) rfl rfl dX7_floor_43 (fun h43 => ?_) (fun h43 => ?_)
      · rw [if_neg (fun z => by rw [z] at h43; exact absurd h43 (by decide)), if_neg (fun z => by rw [z] at h43; exact absurd h43 (by decide))]
        refine xv_iconst (v := nI 0) (q := 62) rfl dX7_floor_61 rfl ?_
        refine xv_istore (q := 64) rfl dX7_floor_62 rfl ?_
        refine xv_iconst (v := nI 0) (q := 65) rfl dX7_floor_64 rfl ?_
        refine xv_istore (q := 67) rfl dX7_floor_65 rfl ?_
        exact m_goes_loop hg (hF1.cw hK.cw) hf ⟨by rw [rgq_e hn5 hwf], rfl, rfl, hF1.q, hL1⟩ (n + 1) 0 (by omega) (by omega)
      · have h43 : ¬ nI 2 ≤ w := h43
        refine xv_iload_n (q := 47) rfl dX7_floor_46 rfl rfl ?_
        refine xv_if_ne (q := 50) (t := 54) rfl rfl dX7_floor_47 (fun h47 => ?_) (fun h47 => ?_)
        · have hw1 : w = nI 1 := by
            rcases pk_ix w (n := 2) (by decide) with z | z | ⟨j, zhj, rfl⟩
            · exact absurd (Or.inl z) h21
            · exact absurd z h43
            · obtain rfl | rfl : j = 0 ∨ j = 1 := by omega
              · exact absurd rfl h47
              · rfl
          rw [if_neg h47, if_pos hw1]
          refine xv_aload_n (q := 55) rfl dX7_floor_54 rfl rfl ?_
          refine xv_iload_n (q := 56) rfl dX7_floor_55 rfl rfl ?_
          refine xv_iload_n (q := 57) rfl dX7_floor_56 rfl rfl ?_
          refine xv_cV2 (z := mX7_costAt) (q := 60) rfl dX7_floor_57 l_X7_288 gX7_costAt (hg.1 _ _ rfl) rfl rfl rfl (m_cost (d := d) hg (hF1.cw hK.cw) hP1 (all_32 hn5) hG1 hf (p5 (wso_lt c n dd _ f) hn5) (fun i hi zhb => wso_in hwf hi zhb)) (by omega) ?_
          refine xv_iret dX7_floor_60 rfl ?_
          exact ⟨rfl, rfl, rfl, hF1.q, hL1⟩
        · rw [if_pos h47]
          refine xv_iload_n (q := 51) rfl dX7_floor_50 rfl rfl ?_
          refine xv_goto (t := 60) rfl dX7_floor_51 ?_
          refine xv_iret dX7_floor_60 rfl ?_
          exact ⟨rfl, rfl, rfl, hF1.q, hL1⟩
    · have h21 := of_decide_eq_true (Bool.not_eq_eq_eq_not.mp (bIz h21))
      refine xv_bipush (v := (-2)) (q := 26) rfl dX7_floor_24 rfl ?_
      refine xv_iret dX7_floor_26 rfl ?_
      rw [show sp_floor n c dd (tvx tx u) f w = -2 from if_pos (Or.inr (Or.inr h21))]
      exact QMq.rf
end MASK

/-! the model: change, second -/
section MCHG
variable {E : XE} {d : Nat} {sh : XSh} {I : XI} {R : XRf} {L : XL} {n dd : Nat} {c : CR} {tc u : Nat} {tx : TXS} {tv : TV}
theorem m_chg_in (hg : XG sh R) (hw : wfc c n) (hn5 : n ≤ 5) {a : Nat} (ha : a < n) {w : Int32} {s : Int32 × Nat} (zhs : s.2 ≤ 10350) {Q : XQ} (KK : ∀ (J : XI) (l5 l6 : Option Value), MSt I J n c c dd (aln n) tv → XV E mX7_change (d + 7) 0 0 Q 0 0 132 [some (.ref 61), some (.int w), some (.int (nI (chb c n dd tv a s (n - (a + 1))).2)), some (.int (chb c n dd tv a s (n - (a + 1))).1), some (.int (nI a)), l5, l6] [] sh J R L) : ∀ (k j : Nat) (J : XI) (l6 : Option Value), j ≤ n - (a + 1) → n - (a + 1) < j + k → MSt I J n c c dd (aln n) tv → XV E mX7_change (d + 7) 0 0 Q 0 0 50 [some (.ref 61), some (.int w), some (.int (nI (chb c n dd tv a s j).2)), some (.int (chb c n dd tv a s j).1), some (.int (nI a)), some (.int (nI (a + 1 + j))), l6] [] sh J R L := by
  intro k
  induction k with
  | zero => intro j J l6 zh1 zh2; exact absurd zh2 (by omega)
  | succ k ih =>
    intro j J l6 zh1 zh2 hX
    have hn : J 61 15 = nI n := hX.2.1.2.1
    refine xv_iload (q := 52) rfl dX7_change_50 rfl ?_
    refine xv_aload_n (q := 53) rfl dX7_change_52 rfl rfl ?_
    refine xv_geti (q := 56) rfl dX7_change_53 f_X7_88 (hg.1 _ _ rfl) ?_
    rw [hn]
    refine xv_icmp_ge (q := 59) (t := 132) rfl rfl dX7_change_56 (fun h56 => ?_) (fun h56 => ?_)
    · have h56 := nIle h56 (by omega) (by omega)
      obtain rfl : j = n - (a + 1) := by omega
      exact KK J _ _ hX
    · have h56 : a + 1 + j < n := nInle h56 (by omega) (by omega)
      have hbl := chb_le (c := c) (n := n) (dd := dd) (tv := tv) (a := a) zhs j
      have hpa := (hw.1 a ha).2.2.2.2.2.1
      have hpb := (hw.1 _ h56).2.2.2.2.2.1
      refine xv_aload_n (q := 60) rfl dX7_change_59 rfl rfl ?_
      refine xv_geta (q := 63) rfl dX7_change_60 f_X7_41 (hg.1 _ _ rfl) (hg.2 _ _ _ rfl) ?_
      refine xv_iload (q := 65) rfl dX7_change_63 rfl ?_
      refine xv_aload_n (q := 66) rfl dX7_change_65 rfl rfl ?_
      refine xv_geta (q := 69) rfl dX7_change_66 f_X7_56 (hg.1 _ _ rfl) (hg.2 _ _ _ rfl) ?_
      refine xv_iload (q := 71) rfl dX7_change_69 rfl ?_
      refine xv_iald (q := 72) rfl dX7_change_71 (hg.1 _ _ rfl) rfl (by omega) (by decide) ?_
      refine xv_as (w := nI (c 5 (a + 1 + j))) (hX.2.2.2.2.2.2 _ h56) ?_
      refine xv_iast (q := 73) rfl dX7_change_72 (hg.1 _ _ rfl) rfl (by omega) (by decide) ?_
      refine xv_aload_n (q := 74) rfl dX7_change_73 rfl rfl ?_
      refine xv_geta (q := 77) rfl dX7_change_74 f_X7_41 (hg.1 _ _ rfl) (hg.2 _ _ _ rfl) ?_
      refine xv_iload (q := 79) rfl dX7_change_77 rfl ?_
      refine xv_aload_n (q := 80) rfl dX7_change_79 rfl rfl ?_
      refine xv_geta (q := 83) rfl dX7_change_80 f_X7_56 (hg.1 _ _ rfl) (hg.2 _ _ _ rfl) ?_
      refine xv_iload (q := 85) rfl dX7_change_83 rfl ?_
      refine xv_iald (q := 86) rfl dX7_change_85 (hg.1 _ _ rfl) rfl (by omega) (by decide) ?_
      rw [xi_off _ _ _ _ (by decide), hX.2.2.2.2.2.2 a ha]
      refine xv_iast (q := 87) rfl dX7_change_86 (hg.1 _ _ rfl) rfl (by omega) (by decide) ?_
      have hX1 : MSt I (xi (xi J 70 a (nI (c 5 (a + 1 + j)))) 70 (a + 1 + j) (nI (c 5 a))) n c (swp c a (a + 1 + j)) dd (aln n) tv := (hX.put (r := a) hpb).put (r := a + 1 + j) hpa
      refine xv_aload_n (q := 88) rfl dX7_change_87 rfl rfl ?_
      refine xv_aload_n (q := 89) rfl dX7_change_88 rfl rfl ?_
      refine xv_geti (q := 92) rfl dX7_change_89 f_X7_88 (hg.1 _ _ rfl) ?_
      rw [hX1.2.1.2.1]
      refine xv_cV1 (z := mX7_areTwo) (q := 95) rfl dX7_change_92 l_X7_101 gX7_areTwo (hg.1 _ _ rfl) rfl rfl rfl (m_two (d := d) hg hX1.2.1.1 hn5) (by omega) ?_
      refine xv_if_ne (q := 98) (t := 122) rfl rfl dX7_change_95 (fun h95 => ?_) (fun h95 => ?_)
      · have h95 : ¬ aks (ci (swp c a (a + 1 + j))) n = true := by have := bIn h95; rw [Bool.not_eq_true'] at this; rw [this]; decide
        refine xv_aload_n (q := 123) rfl dX7_change_122 rfl rfl ?_
        refine xv_rV0 (z := mX7_laysBack) (q := 126) rfl dX7_change_123 l_X7_316 gX7_laysBack (hg.1 _ _ rfl) rfl rfl rfl (m_laysBack (d := d) hg) (by omega) ?_
        rintro _ _ J5 _ _ ⟨rfl, rfl, rfl, rfl, hk3, hk4⟩
        have zhz := fun l6 => ih (j + 1) J5 l6 (by omega) (by omega) (mst_b hX1 hw.1 hk3 hk4)
        refine xv_iinc (q := 129) (v := nI 1) rfl dX7_change_126 rfl rfl ?_
        refine xv_goto (t := 50) rfl dX7_change_129 ?_
        rw [nI_add]
        rw [show chb c n dd tv a s (j + 1) = chs c n dd tv (chb c n dd tv a s j) a (a + 1 + j) from rfl, show chs c n dd tv (chb c n dd tv a s j) a (a + 1 + j) = chb c n dd tv a s j from if_neg (fun z => h95 z.1)] at zhz
        exact zhz _
      · have h95 : aks (ci (swp c a (a + 1 + j))) n = true := by have := bIz h95; rw [Bool.not_eq_false'] at this; exact this
        refine xv_aload_n (q := 99) rfl dX7_change_98 rfl rfl ?_
        refine xv_rV0 (z := mX7_rides) (q := 102) rfl dX7_change_99 l_X7_298 gX7_rides (hg.1 _ _ rfl) rfl rfl rfl (m_rides (d := d) hg hX1.2.1 hX1.2.2.2.1 (all_32 hn5) (hX1.2.2.2.2.1.sx hX1.2.2.1)) (by omega) ?_
        rintro _ _ J2 _ _ ⟨rfl, rfl, rfl, rfl, hF2, -, -⟩
        have hrd := rdc_le (dd := dd) (P := aln n) (tv := tv) (c := swp c a (a + 1 + j)) (n := n) (fun r hr => (hX1.2.1.2.2.2.2.2 r hr).2.2.1) hn5
        refine xv_istore (q := 104) rfl dX7_change_102 rfl ?_
        refine xv_iload (q := 106) rfl dX7_change_104 rfl ?_
        refine xv_iload_n (q := 107) rfl dX7_change_106 rfl rfl ?_
        refine xv_icmp_ge (q := 110) (t := 122) rfl rfl dX7_change_107 (fun h107 => ?_) (fun h107 => ?_)
        · have h107 := nIle h107 (by omega) (by omega)
          refine xv_aload_n (q := 123) rfl dX7_change_122 rfl rfl ?_
          refine xv_rV0 (z := mX7_laysBack) (q := 126) rfl dX7_change_123 l_X7_316 gX7_laysBack (hg.1 _ _ rfl) rfl rfl rfl (m_laysBack (d := d) hg) (by omega) ?_
          rintro _ _ J5 _ _ ⟨rfl, rfl, rfl, rfl, hk3, hk4⟩
          have zhz := fun l6 => ih (j + 1) J5 l6 (by omega) (by omega) (mst_b (hX1.ri hF2) hw.1 hk3 hk4)
          refine xv_iinc (q := 129) (v := nI 1) rfl dX7_change_126 rfl rfl ?_
          refine xv_goto (t := 50) rfl dX7_change_129 ?_
          rw [nI_add]
          rw [show chb c n dd tv a s (j + 1) = chs c n dd tv (chb c n dd tv a s j) a (a + 1 + j) from rfl, show chs c n dd tv (chb c n dd tv a s j) a (a + 1 + j) = chb c n dd tv a s j from if_neg (fun z => by have := z.2; omega)] at zhz
          exact zhz _
        · have h107 := nInle h107 (by omega) (by omega)
          refine xv_bipush (v := nI 10) (q := 112) rfl dX7_change_110 rfl ?_
          refine xv_iload (q := 114) rfl dX7_change_112 rfl ?_
          refine xv_imul (q := 115) rfl dX7_change_114 ?_
          refine xv_as (w := nI (10 * a)) (pk_mul _ _) ?_
          refine xv_iload (q := 117) rfl dX7_change_115 rfl ?_
          refine xv_iadd (q := 118) rfl dX7_change_117 ?_
          refine xv_as (w := nI (10 * a + (a + 1 + j))) (nI_add _ _) ?_
          refine xv_istore_n (q := 119) rfl dX7_change_118 rfl rfl ?_
          refine xv_iload (q := 121) rfl dX7_change_119 rfl ?_
          refine xv_istore_n (q := 122) rfl dX7_change_121 rfl rfl ?_
          refine xv_aload_n (q := 123) rfl dX7_change_122 rfl rfl ?_
          refine xv_rV0 (z := mX7_laysBack) (q := 126) rfl dX7_change_123 l_X7_316 gX7_laysBack (hg.1 _ _ rfl) rfl rfl rfl (m_laysBack (d := d) hg) (by omega) ?_
          rintro _ _ J5 _ _ ⟨rfl, rfl, rfl, rfl, hk3, hk4⟩
          have zhz := fun l6 => ih (j + 1) J5 l6 (by omega) (by omega) (mst_b (hX1.ri hF2) hw.1 hk3 hk4)
          refine xv_iinc (q := 129) (v := nI 1) rfl dX7_change_126 rfl rfl ?_
          refine xv_goto (t := 50) rfl dX7_change_129 ?_
          rw [nI_add]
          rw [show chb c n dd tv a s (j + 1) = chs c n dd tv (chb c n dd tv a s j) a (a + 1 + j) from rfl, show chs c n dd tv (chb c n dd tv a s j) a (a + 1 + j) = (nI (10 * a + (a + 1 + j)), rdc (swp c a (a + 1 + j)) n dd (aln n) tv) from if_pos ⟨h95, h107⟩] at zhz
          exact zhz _
theorem m_chg_out (hg : XG sh R) (hw : wfc c n) (hn5 : n ≤ 5) (hdd : MCw I n c dd) {w : Int32} {Q : XQ} (KK : ∀ (J : XI) (l4 l5 l6 : Option Value), MSt I J n c c dd (aln n) tv → XV E mX7_change (d + 7) 0 0 Q 0 0 138 [some (.ref 61), some (.int w), some (.int (nI (cha c n dd tv n).2)), some (.int (cha c n dd tv n).1), l4, l5, l6] [] sh J R L) : ∀ (k a : Nat) (J : XI) (l5 l6 : Option Value), a ≤ n → n < a + k → MSt I J n c c dd (aln n) tv → XV E mX7_change (d + 7) 0 0 Q 0 0 35 [some (.ref 61), some (.int w), some (.int (nI (cha c n dd tv a).2)), some (.int (cha c n dd tv a).1), some (.int (nI a)), l5, l6] [] sh J R L := by
  intro k
  induction k with
  | zero => intro a J l5 l6 zh1 zh2; exact absurd zh2 (by omega)
  | succ k ih =>
    intro a J l5 l6 zh1 zh2 hX
    have hn : J 61 15 = nI n := hX.2.1.2.1
    refine xv_iload (q := 37) rfl dX7_change_35 rfl ?_
    refine xv_aload_n (q := 38) rfl dX7_change_37 rfl rfl ?_
    refine xv_geti (q := 41) rfl dX7_change_38 f_X7_88 (hg.1 _ _ rfl) ?_
    rw [hn]
    refine xv_icmp_ge (q := 44) (t := 138) rfl rfl dX7_change_41 (fun h41 => ?_) (fun h41 => ?_)
    · have h41 := nIle h41 (by omega) (by omega)
      obtain rfl : a = n := by omega
      exact KK J _ _ _ hX
    · have h41 : a < n := nInle h41 (by omega) (by omega)
      refine xv_iload (q := 46) rfl dX7_change_44 rfl ?_
      refine xv_iconst (v := nI 1) (q := 47) rfl dX7_change_46 rfl ?_
      refine xv_iadd (q := 48) rfl dX7_change_47 ?_
      refine xv_as (w := nI (a + 1)) (nI_add _ _) ?_
      refine xv_istore (q := 50) rfl dX7_change_48 rfl ?_
      refine m_chg_in (d := d) (tv := tv) (I := I) hg hw hn5 h41 (Nat.le_trans (cha_le a) (rdc_le (fun r hr => (hw.1 r hr).2.2.1) hn5)) (fun J l5 l6 hX => ?_) (n + 1) 0 J _ (by omega) (by omega) hX
      refine xv_iinc (q := 135) (v := nI 1) rfl dX7_change_132 rfl rfl ?_
      refine xv_goto (t := 35) rfl dX7_change_135 ?_
      rw [nI_add]
      exact ih (a + 1) J _ _ (by omega) (by omega) hX
theorem m_change (hg : XG sh R) (hK : MKc I n c dd u) (hT : MTX I tc tx) (hu : u < tc) (w : Int32) : XC E mX7_change (d + 47) 0 0 [.ref 61, .int w] sh I R L (QMq n (.int (sp_change n c dd (tvx tx u) w)) sh I R L) := by
  have hu4 := hK.2.2.2.2.2.1
  refine XC.of (by decide) rfl rfl ?_
  refine xv_iload_n (q := 1) rfl dX7_change_0 rfl rfl ?_
  refine xv_i2l (q := 2) rfl dX7_change_1 ?_
  refine xv_lconst (v := lN 0) (q := 3) rfl dX7_change_2 rfl ?_
  refine xv_lconst (v := lN 1) (q := 4) rfl dX7_change_3 rfl ?_
  refine xv_cS3 (z := mX7_in) (q := 7) rfl dX7_change_4 l_X7_91 gX7_in rfl (m_in (d := d) _ _ _) (by omega) ?_
  rw [lin_01]
  refine xv_if_ne (q := 10) (t := 13) rfl rfl dX7_change_7 (fun zh7 => ?_) (fun zh7 => ?_)
  · have zh7 := of_decide_eq_false (Bool.not_eq_eq_eq_not.mp (bIn zh7))
    have hsp : sp_change n c dd (tvx tx u) w = _ := if_neg zh7
    rw [hsp]
    refine xv_aload_n (q := 14) rfl dX7_change_13 rfl rfl ?_
    refine xv_aload_n (q := 15) rfl dX7_change_14 rfl rfl ?_
    refine xv_cV0 (z := mX7_allRiders) (q := 18) rfl dX7_change_15 l_X7_291 gX7_allRiders (hg.1 _ _ rfl) rfl rfl rfl (m_all (d := d) hg hK.2.1 hK.2.2.1) (by omega) ?_
    refine xv_rV1 (z := mX7_gathers) (q := 21) rfl dX7_change_18 l_X7_294 gX7_gathers (hg.1 _ _ rfl) rfl rfl rfl (m_gat (d := d) hg hK.cw hT hu4 hu (all_32 hK.2.2.1)) (by omega) ?_
    rintro _ _ J1 _ L1 ⟨rfl, rfl, rfl, hF1, hL1, hP1, hG1, hM1⟩
    refine xv_aload_n (q := 22) rfl dX7_change_21 rfl rfl ?_
    refine xv_rV0 (z := mX7_keeps) (q := 25) rfl dX7_change_22 l_X7_313 gX7_keeps (hg.1 _ _ rfl) rfl rfl rfl (m_keeps (d := d) hg) (by omega) ?_
    rintro _ _ J2 _ _ ⟨rfl, rfl, rfl, rfl, hk1, hk2⟩
    have hS := mst_0 (P := aln n) hK.cw hF1 hP1 hG1 hM1 hk1 hk2
    refine xv_aload_n (q := 26) rfl dX7_change_25 rfl rfl ?_
    refine xv_rV0 (z := mX7_rides) (q := 29) rfl dX7_change_26 l_X7_298 gX7_rides (hg.1 _ _ rfl) rfl rfl rfl (m_rides (d := d) hg hS.2.1 hS.2.2.2.1 (all_32 hK.2.2.1) hS.2.2.2.2.1) (by omega) ?_
    rintro _ _ J3 _ _ ⟨rfl, rfl, rfl, rfl, hF3, -, -⟩
    refine xv_istore_n (q := 30) rfl dX7_change_29 rfl rfl ?_
    refine xv_iconst (v := (-1)) (q := 31) rfl dX7_change_30 rfl ?_
    refine xv_istore_n (q := 32) rfl dX7_change_31 rfl rfl ?_
    refine xv_iconst (v := nI 0) (q := 33) rfl dX7_change_32 rfl ?_
    refine xv_istore (q := 35) rfl dX7_change_33 rfl ?_
    refine m_chg_out (d := d + 40) (tv := tvx tx u) hg hK.2.2.2.2.2.2 hK.2.2.1 hK.cw (fun J l4 l5 l6 hX => ?_) (n + 1) 0 J3 none none (by omega) (by omega) (hS.ri hF3)
    refine xv_iload_n (q := 139) rfl dX7_change_138 rfl rfl ?_
    refine xv_if_ne (q := 142) (t := 146) rfl rfl dX7_change_139 (fun h139 => ?_) (fun h139 => ?_)
    · rw [if_neg h139]
      refine xv_iload_n (q := 147) rfl dX7_change_146 rfl rfl ?_
      refine xv_iret dX7_change_147 rfl ?_
      exact ⟨rfl, rfl, rfl, fmq_st hX.1 (fun r hr => (hX.2.1.1 5 r (by decide) hr).trans (hK.1 5 r (by decide) hr).symm), hL1⟩
    · rw [if_pos h139]
      refine xv_iload_n (q := 143) rfl dX7_change_142 rfl rfl ?_
      refine xv_goto (t := 147) rfl dX7_change_143 ?_
      refine xv_iret dX7_change_147 rfl ?_
      exact ⟨rfl, rfl, rfl, fmq_st hX.1 (fun r hr => (hX.2.1.1 5 r (by decide) hr).trans (hK.1 5 r (by decide) hr).symm), hL1⟩
  · have zh7 := of_decide_eq_true (Bool.not_eq_eq_eq_not.mp (bIz zh7))
    rw [show sp_change n c dd (tvx tx u) w = -2 from if_pos zh7]
    refine xv_bipush (v := (-2)) (q := 12) rfl dX7_change_10 rfl ?_
    refine xv_iret dX7_change_12 rfl ?_
    exact QMq.rf
theorem dd_put {J : XI} {d0 v : Nat} (hv : v = 1 ∨ v = 2) (h : MCw J n c d0) : MCw (xi J 61 7 (nI v)) n c v := ⟨fun w r hw hr => by rw [xi_off _ _ _ _ (by omega)]; exact h.1 w r hw hr, (xi_ne _ _ _ _ (by decide)).trans h.2.1, h.2.2.1, xi_eq _ _ _ _, hv, h.2.2.2.2.2⟩
theorem ga_f {J : XI} {P : Nat} {x : Int32} (h : MGa J n c tv P) : MGa (xi J 61 7 x) n c tv P := fun o f w za1 za2 za3 za4 za5 => by rw [xi_off _ _ _ _ (by decide), xi_off _ _ _ _ (by decide)]; exact h o f w za1 za2 za3 za4 za5
/-- but for what gathering and riding change -/
def FGr (I J : XI) : Prop := (∀ k, k ≠ 61 → k ≠ 72 → k ≠ 73 → k ≠ 74 → J k = I k) ∧ ∀ j, (j < 16 ∨ 37 ≤ j) → J 61 j = I 61 j
theorem FGr.rf {I : XI} : FGr I I := ⟨fun _ _ _ _ _ => rfl, fun _ _ => rfl⟩
theorem FGr.trans {I J K : XI} (h : FGr I J) (zh2 : FGr J K) : FGr I K := ⟨fun k a b e f => (zh2.1 k a b e f).trans (h.1 k a b e f), fun j a => (zh2.2 j a).trans (h.2 j a)⟩
theorem FGt.r {I J : XI} (h : FGt I J) : FGr I J := ⟨h.1, fun j zhj => h.2 j (by omega) (by omega)⟩
theorem FRi.r {I J : XI} (h : FRi I J) : FGr I J := ⟨fun k a _ _ _ => h.1 k a, fun j zhj => h.2 j (by omega) (by omega)⟩
theorem FGr.cw {I J : XI} (h : FGr I J) (hc : MCw I n c dd) : MCw J n c dd := hc.mv (fun k zh1 zh2 => h.1 k (by omega) (by omega) (by omega) (by omega)) (h.2 15 (by decide)) (h.2 7 (by decide))
theorem FGr.mtx {I J : XI} (h : FGr I J) (hc : MTX I tc tx) : MTX J tc tx := hc.mv (h.2 3 (by decide)) (h.1 62 (by decide) (by decide) (by decide) (by decide)) (h.1 63 (by decide) (by decide) (by decide) (by decide))
theorem FGr.q {I J : XI} (h : FGr I J) : FMq n I J := ⟨fun k hk => h.1 k (by omega) (by omega) (by omega) (by omega), fun w r hw _ => by rw [h.1 _ (by omega) (by omega) (by omega) (by omega)], fun j zhj => h.2 j (by omega)⟩
theorem wlk_m (hw : wfn c n) (hn5 : n ≤ 5) : ∀ r, onL (wlk c n dd tv r) ≤ 10350 ∧ ∀ q, wlk c n dd tv r = some q → q.1 < r
  | 0 => ⟨Nat.zero_le _, fun q h => by cases h⟩
  | r + 1 => ons_b (wlk_m hw hn5 r).1 (rdc_le (fun a ha => (hw a ha).2.2.1) hn5) (wlk_m hw hn5 r).2
theorem m_sec_loop (hg : XG sh R) (hK : MKc I n c dd u) (hT : MTX I tc tx) (hu : u < tc) {w : Int32} {Q : XQ} (hQ : ∀ J L', FGr I J → FL L L' → Q (some (.int (onP (wlk c n dd (tvx tx u) n)))) sh J R L') : ∀ (k r : Nat) (J : XI) (L' : XL) (l5 : Option Value), r ≤ n → n < r + k → FGr I J → FL L L' → XV E mX7_second (d + 46) 0 0 Q 0 0 69 [some (.ref 61), some (.int w), some (.int (onP (wlk c n dd (tvx tx u) r))), some (.int (nI (onL (wlk c n dd (tvx tx u) r)))), some (.int (nI r)), l5] [] sh J R L' := by
  intro k
  induction k with
  | zero => intro r J L' l5 zh1 zh2; exact absurd zh2 (by omega)
  | succ k ih =>
    intro r J L' l5 zh1 zh2 hF hL
    have hn5 := hK.2.2.1
    have hn : J 61 15 = nI n := (hF.2 15 (by decide)).trans hK.2.1
    refine xv_iload (q := 71) rfl dX7_second_69 rfl ?_
    refine xv_aload_n (q := 72) rfl dX7_second_71 rfl rfl ?_
    refine xv_geti (q := 75) rfl dX7_second_72 f_X7_88 (hg.1 _ _ rfl) ?_
    rw [hn]
    refine xv_icmp_ge (q := 78) (t := 122) rfl rfl dX7_second_75 (fun h75 => ?_) (fun h75 => ?_)
    · have h75 := nIle h75 (by omega) (by omega)
      obtain rfl : r = n := by omega
      refine xv_iload_n (q := 123) rfl dX7_second_122 rfl rfl ?_
      refine xv_iret dX7_second_123 rfl ?_
      exact hQ J L' hF hL
    · have h75 : r < n := nInle h75 (by omega) (by omega)
      obtain ⟨hob, hoq⟩ := wlk_m (dd := dd) (tv := tvx tx u) hK.cw.2.2.2.2.2 hn5 r
      have hrd := rdc_le (dd := dd) (P := bcl (aln n) r) (tv := tvx tx u) (c := c) (n := n) (fun a ha => (hK.cw.2.2.2.2.2 a ha).2.2.1) hn5
      have hb32 : bcl (aln n) r < 32 := Nat.lt_of_le_of_lt (bcl_le _ _) (all_32 hn5)
      refine xv_aload_n (q := 79) rfl dX7_second_78 rfl rfl ?_
      refine xv_aload_n (q := 80) rfl dX7_second_79 rfl rfl ?_
      refine xv_cV0 (z := mX7_allRiders) (q := 83) rfl dX7_second_80 l_X7_291 gX7_allRiders (hg.1 _ _ rfl) rfl rfl rfl (m_all (d := d) hg hn hn5) (by omega) ?_
      refine xv_iconst (v := nI 1) (q := 84) rfl dX7_second_83 rfl ?_
      refine xv_iload (q := 86) rfl dX7_second_84 rfl ?_
      refine xv_ishl (q := 87) rfl dX7_second_86 ?_
      refine xv_as (w := nI (2 ^ r)) (sh1 r (by omega)) ?_
      refine xv_iconst (v := (-1)) (q := 88) rfl dX7_second_87 rfl ?_
      refine xv_ixor (q := 89) rfl dX7_second_88 ?_
      refine xv_iand (q := 90) rfl dX7_second_89 ?_
      refine xv_as (w := nI (bcl (aln n) r)) (bcl_I _ (all_32 hn5) r (by omega)) ?_
      refine xv_rV1 (z := mX7_gathers) (q := 93) rfl dX7_second_90 l_X7_294 gX7_gathers (hg.1 _ _ rfl) rfl rfl rfl (m_gat (d := d) hg (hF.cw hK.cw) (hF.mtx hT) ((hF.2 4 (by decide)).trans hK.2.2.2.2.2.1) hu hb32) (by omega) ?_
      rintro _ _ J1 _ L1 ⟨rfl, rfl, rfl, hF1, hL1, hP1, hG1, -⟩
      have hL2 := hL.trans hL1
      refine xv_aload_n (q := 94) rfl dX7_second_93 rfl rfl ?_
      refine xv_rV0 (z := mX7_rides) (q := 97) rfl dX7_second_94 l_X7_298 gX7_rides (hg.1 _ _ rfl) rfl rfl rfl (m_rides (d := d) hg ((hF.trans hF1.r).cw hK.cw) hP1 hb32 hG1) (by omega) ?_
      rintro _ _ J2 _ _ ⟨rfl, rfl, rfl, rfl, hF2a, -, -⟩
      have hF2 : FGr I J2 := (hF.trans hF1.r).trans hF2a.r
      refine xv_istore (q := 99) rfl dX7_second_97 rfl ?_
      cases zhq : wlk c n dd (tvx tx u) r with
      | none =>
        refine xv_iload_n (q := 100) rfl dX7_second_99 rfl rfl ?_
        refine xv_iconst (v := (-1)) (q := 101) rfl dX7_second_100 rfl ?_
        refine xv_icmp_eq (q := 104) (t := 110) rfl rfl dX7_second_101 (fun h101 => ?_) (fun h101 => ?_)
        · refine xv_iload (q := 112) rfl dX7_second_110 rfl ?_
          refine xv_istore_n (q := 113) rfl dX7_second_112 rfl rfl ?_
          refine xv_iload (q := 115) rfl dX7_second_113 rfl ?_
          refine xv_istore_n (q := 116) rfl dX7_second_115 rfl rfl ?_
          refine xv_iinc (q := 119) (v := nI 1) rfl dX7_second_116 rfl rfl ?_
          refine xv_goto (t := 69) rfl dX7_second_119 ?_
          rw [nI_add]
          have zhz := fun l5 => ih (r + 1) J2 _ l5 (by omega) (by omega) hF2 hL2
          rw [show wlk c n dd (tvx tx u) (r + 1) = some (r, rdc c n dd (bcl (aln n) r) (tvx tx u)) from (show ons (wlk c n dd (tvx tx u) r) r _ = _ from by rw [zhq]; rfl)] at zhz
          exact zhz _
        · exact absurd rfl h101
      | some z =>
        rw [zhq] at hob
        have hz6 := hoq z zhq
        refine xv_iload_n (q := 100) rfl dX7_second_99 rfl rfl ?_
        refine xv_iconst (v := (-1)) (q := 101) rfl dX7_second_100 rfl ?_
        refine xv_icmp_eq (q := 104) (t := 110) rfl rfl dX7_second_101 (fun h101 => ?_) (fun h101 => ?_)
        · exact absurd h101 (n_m1 (by omega))
        · refine xv_iload (q := 106) rfl dX7_second_104 rfl ?_
          refine xv_iload_n (q := 107) rfl dX7_second_106 rfl rfl ?_
          refine xv_icmp_ge (q := 110) (t := 116) rfl rfl dX7_second_107 (fun h107 => ?_) (fun h107 => ?_)
          · have h107 : z.2 ≤ rdc c n dd (bcl (aln n) r) (tvx tx u) := nIle h107 (by have : z.2 ≤ 10350 := hob; omega) (by omega)
            refine xv_iinc (q := 119) (v := nI 1) rfl dX7_second_116 rfl rfl ?_
            refine xv_goto (t := 69) rfl dX7_second_119 ?_
            rw [nI_add]
            have zhz := fun l5 => ih (r + 1) J2 _ l5 (by omega) (by omega) hF2 hL2
            rw [show wlk c n dd (tvx tx u) (r + 1) = some z from (show ons (wlk c n dd (tvx tx u) r) r _ = _ from by rw [zhq]; exact if_neg (by omega))] at zhz
            exact zhz _
          · have h107 : rdc c n dd (bcl (aln n) r) (tvx tx u) < z.2 := nInle h107 (by have : z.2 ≤ 10350 := hob; omega) (by omega)
            refine xv_iload (q := 112) rfl dX7_second_110 rfl ?_
            refine xv_istore_n (q := 113) rfl dX7_second_112 rfl rfl ?_
            refine xv_iload (q := 115) rfl dX7_second_113 rfl ?_
            refine xv_istore_n (q := 116) rfl dX7_second_115 rfl rfl ?_
            refine xv_iinc (q := 119) (v := nI 1) rfl dX7_second_116 rfl rfl ?_
            refine xv_goto (t := 69) rfl dX7_second_119 ?_
            rw [nI_add]
            have zhz := fun l5 => ih (r + 1) J2 _ l5 (by omega) (by omega) hF2 hL2
            rw [show wlk c n dd (tvx tx u) (r + 1) = some (r, rdc c n dd (bcl (aln n) r) (tvx tx u)) from (show ons (wlk c n dd (tvx tx u) r) r _ = _ from by rw [zhq]; exact if_pos h107)] at zhz
            exact zhz _
theorem m_second (hg : XG sh R) (hK : MKc I n c dd u) (hT : MTX I tc tx) (hu : u < tc) (w : Int32) : XC E mX7_second (d + 46) 0 0 [.ref 61, .int w] sh I R L (QMq n (.int (sp_second n c (tvx tx u) dd w)) sh I R L) := by
  have hu4 := hK.2.2.2.2.2.1
  refine XC.of (by decide) rfl rfl ?_
  refine xv_iload_n (q := 1) rfl dX7_second_0 rfl rfl ?_
  refine xv_i2l (q := 2) rfl dX7_second_1 ?_
  refine xv_lconst (v := lN 0) (q := 3) rfl dX7_second_2 rfl ?_
  refine xv_lconst (v := lN 1) (q := 4) rfl dX7_second_3 rfl ?_
  refine xv_cS3 (z := mX7_in) (q := 7) rfl dX7_second_4 l_X7_91 gX7_in rfl (m_in (d := d) _ _ _) (by omega) ?_
  rw [lin_01]
  refine xv_if_ne (q := 10) (t := 14) rfl rfl dX7_second_7 (fun zh7 => ?_) (fun zh7 => ?_)
  · have zh7 := of_decide_eq_false (Bool.not_eq_eq_eq_not.mp (bIn zh7))
    have hsp : sp_second n c (tvx tx u) dd w = _ := if_neg zh7
    rw [hsp]
    refine xv_iload_n (q := 15) rfl dX7_second_14 rfl rfl ?_
    refine xv_if_ne (q := 18) (t := 62) rfl rfl dX7_second_15 (fun h15 => ?_) (fun h15 => ?_)
    · have hw1 : w = nI 1 := by
        rcases pk_ix w (n := 2) (by decide) with z | z | ⟨j, zhj, rfl⟩
        · exact absurd (Or.inl z) zh7
        · exact absurd (Or.inr (fun q => absurd (Int32.le_trans z q) (by decide))) zh7
        · obtain rfl | rfl : j = 0 ∨ j = 1 := by omega
          · exact absurd rfl h15
          · rfl
      rw [if_pos hw1]
      refine xv_iconst (v := (-1)) (q := 63) rfl dX7_second_62 rfl ?_
      refine xv_istore_n (q := 64) rfl dX7_second_63 rfl rfl ?_
      refine xv_iconst (v := nI 0) (q := 65) rfl dX7_second_64 rfl ?_
      refine xv_istore_n (q := 66) rfl dX7_second_65 rfl rfl ?_
      refine xv_iconst (v := nI 0) (q := 67) rfl dX7_second_66 rfl ?_
      refine xv_istore (q := 69) rfl dX7_second_67 rfl ?_
      exact m_sec_loop (d := d) (L := L) hg hK hT hu (fun J L' hF hL => ⟨rfl, rfl, rfl, hF.q, hL⟩) (n + 1) 0 I L none (by omega) (by omega) .rf .rf
    · have h15 : w = 0 := h15
      rw [if_neg (fun z => by rw [h15] at z; exact absurd z (by decide))]
      refine xv_aload_n (q := 19) rfl dX7_second_18 rfl rfl ?_
      refine xv_geti (q := 22) rfl dX7_second_19 f_X7_23 (hg.1 _ _ rfl) ?_
      rw [hK.2.2.2.1]
      refine xv_istore_n (q := 23) rfl dX7_second_22 rfl rfl ?_
      refine xv_aload_n (q := 24) rfl dX7_second_23 rfl rfl ?_
      refine xv_aload_n (q := 25) rfl dX7_second_24 rfl rfl ?_
      refine xv_cV0 (z := mX7_allRiders) (q := 28) rfl dX7_second_25 l_X7_291 gX7_allRiders (hg.1 _ _ rfl) rfl rfl rfl (m_all (d := d) hg hK.2.1 hK.2.2.1) (by omega) ?_
      refine xv_rV1 (z := mX7_gathers) (q := 31) rfl dX7_second_28 l_X7_294 gX7_gathers (hg.1 _ _ rfl) rfl rfl rfl (m_gat (d := d) hg hK.cw hT hu4 hu (all_32 hK.2.2.1)) (by omega) ?_
      rintro _ _ J1 _ L1 ⟨rfl, rfl, rfl, hF1, hL1, hP1, hG1, -⟩
      have hc1 := dd_put (v := 1) (Or.inl rfl) (hF1.cw hK.cw)
      refine xv_aload_n (q := 32) rfl dX7_second_31 rfl rfl ?_
      refine xv_iconst (v := nI 1) (q := 33) rfl dX7_second_32 rfl ?_
      refine xv_puti (q := 36) rfl dX7_second_33 f_X7_23 (fun h => by cases h) (hg.1 _ _ rfl) ?_
      refine xv_aload_n (q := 37) rfl dX7_second_36 rfl rfl ?_
      refine xv_rV0 (z := mX7_rides) (q := 40) rfl dX7_second_37 l_X7_298 gX7_rides (hg.1 _ _ rfl) rfl rfl rfl (m_rides (d := d) hg hc1 ((xi_ne _ _ _ _ (by decide)).trans hP1) (all_32 hK.2.2.1) (ga_f hG1)) (by omega) ?_
      rintro _ _ J2 _ _ ⟨rfl, rfl, rfl, rfl, hF2, -, -⟩
      have hc2 := dd_put (v := 2) (Or.inr rfl) (hF2.cw hc1)
      refine xv_istore_n (q := 41) rfl dX7_second_40 rfl rfl ?_
      refine xv_aload_n (q := 42) rfl dX7_second_41 rfl rfl ?_
      refine xv_iconst (v := nI 2) (q := 43) rfl dX7_second_42 rfl ?_
      refine xv_puti (q := 46) rfl dX7_second_43 f_X7_23 (fun h => by cases h) (hg.1 _ _ rfl) ?_
      refine xv_aload_n (q := 47) rfl dX7_second_46 rfl rfl ?_
      refine xv_rV0 (z := mX7_rides) (q := 50) rfl dX7_second_47 l_X7_298 gX7_rides (hg.1 _ _ rfl) rfl rfl rfl (m_rides (d := d) hg hc2 ((xi_ne _ _ _ _ (by decide)).trans ((hF2.2 34 (by decide) (by decide)).trans ((xi_ne _ _ _ _ (by decide)).trans hP1))) (all_32 hK.2.2.1) (ga_f (hF2.ga (ga_f hG1)))) (by omega) ?_
      rintro _ _ J3 _ _ ⟨rfl, rfl, rfl, rfl, hF3, -, -⟩
      refine xv_istore (q := 52) rfl dX7_second_50 rfl ?_
      refine xv_aload_n (q := 53) rfl dX7_second_52 rfl rfl ?_
      refine xv_iload_n (q := 54) rfl dX7_second_53 rfl rfl ?_
      refine xv_puti (q := 57) rfl dX7_second_54 f_X7_23 (fun h => by cases h) (hg.1 _ _ rfl) ?_
      refine xv_iload_n (q := 58) rfl dX7_second_57 rfl rfl ?_
      refine xv_iload (q := 60) rfl dX7_second_58 rfl ?_
      refine xv_isub (q := 61) rfl dX7_second_60 ?_
      refine xv_iret dX7_second_61 rfl ?_
      refine ⟨rfl, rfl, rfl, ⟨fun k hk => ?_, fun a r ha _ => ?_, fun j zhj => ?_⟩, hL1⟩
      · rw [xi_off _ _ _ _ (by omega), hF3.1 k (by omega), xi_off _ _ _ _ (by omega), hF2.1 k (by omega), xi_off _ _ _ _ (by omega)]
        exact hF1.1 k (by omega) (by omega) (by omega) (by omega)
      · rw [xi_off _ _ _ _ (by omega), hF3.1 _ (by omega), xi_off _ _ _ _ (by omega), hF2.1 _ (by omega), xi_off _ _ _ _ (by omega)]
        rw [hF1.1 _ (by omega) (by omega) (by omega) (by omega)]
      · by_cases e : j = 7
        · rw [e, xi_eq]; exact hK.2.2.2.1.symm
        · rw [xi_ne _ _ _ _ (fun z => e z.2), hF3.2 j (by omega) (by omega), xi_ne _ _ _ _ (fun z => e z.2), hF2.2 j (by omega) (by omega), xi_ne _ _ _ _ (fun z => e z.2)]
          exact hF1.2 j (by omega) (by omega)
  · have zh7 := of_decide_eq_true (Bool.not_eq_eq_eq_not.mp (bIz zh7))
    rw [show sp_second n c (tvx tx u) dd w = -100000 from if_pos zh7]
    refine xv_ldcw (q := 13) rfl dX7_second_10 k_X7_322 ?_
    refine xv_iret dX7_second_13 rfl ?_
    exact QMq.rf
end MCHG

/-! the model: one -/
theorem mvs_one {c : CR} {tv : TV} {r p : Nat} : ∀ k, mvs c (setr c 5 r p) tv k = if r < k then (if p = c 5 r then 0 else prc c tv 2 r (c 3 r) (p / 2) 0) else 0
  | 0 => (if_neg (Nat.not_lt_zero r)).symm
  | k + 1 => by
    show mvs c (setr c 5 r p) tv k + _ = _
    rw [mvs_one k]
    rcases Nat.lt_trichotomy r k with h | h | h
    · rw [show setr c 5 r p 5 k = c 5 k from setr_ne (fun z => by omega), if_pos h, if_pos (show c 5 k = c 5 k from rfl), Nat.add_zero, if_pos (show r < k + 1 by omega)]
    · subst h
      rw [if_neg (Nat.lt_irrefl r), if_pos (Nat.lt_succ_self r), setr_at, Nat.zero_add]
    · rw [show setr c 5 r p 5 k = c 5 k from setr_ne (fun z => by omega), if_neg (show ¬ r < k by omega), if_pos (show c 5 k = c 5 k from rfl), Nat.add_zero, if_neg (show ¬ r < k + 1 by omega)]
theorem aks_on {c : CR} {n r p : Nat} (ha : aks (ci c) n = true) (hr : r < n) : aks (ci (setr c 5 r p)) n = oks (ci (setr c 5 r p)) r n := by
  rw [Bool.eq_iff_iff]
  refine ⟨fun h => ?_, fun h => aks_setr ha h⟩
  rw [oks_iff]
  rw [aks_iff] at h
  exact fun o zh1 zh2 => h o r zh1 hr zh2
theorem lin_01 {x : Int32} : lin x.toInt64 (lN 0) (lN 1) = !decide (x < 0 ∨ ¬ x ≤ nI 1) := lin_0n (k := 1) (by decide) rfl
section MONE
variable {E : XE} {d : Nat} {sh : XSh} {I : XI} {R : XRf} {L : XL} {n dd : Nat} {c : CR} {tc u : Nat} {tx : TXS} {tv : TV}
theorem m_one_loop (hg : XG sh R) (hw : wfc c n) (hn5 : n ≤ 5) {r : Nat} (hr : r < n) {w : Int32} {Q : XQ} (KK : ∀ (J : XI) (x : CR) (l5 l6 : Option Value), MSt I J n c x dd (aln n) tv → XV E mX7_one (d + 7) 0 0 Q 0 0 98 [some (.ref 61), some (.int (nI r)), some (.int w), some (.int (onP (onf c n dd tv r 6))), some (.int (nI (onL (onf c n dd tv r 6)))), l5, l6] [] sh J R L) : ∀ (k p : Nat) (J : XI) (x : CR) (l6 : Option Value), p ≤ 6 → 6 < p + k → MSt I J n c x dd (aln n) tv → (∀ p, setr x 5 r p = setr c 5 r p) → XV E mX7_one (d + 7) 0 0 Q 0 0 41 [some (.ref 61), some (.int (nI r)), some (.int w), some (.int (onP (onf c n dd tv r p))), some (.int (nI (onL (onf c n dd tv r p)))), some (.int (nI p)), l6] [] sh J R L := by
  intro k
  induction k with
  | zero => intro p J x l6 zh1 zh2; exact absurd zh2 (by omega)
  | succ k ih =>
    intro p J x l6 zh1 zh2 hX zhx
    refine xv_iload (q := 43) rfl dX7_one_41 rfl ?_
    refine xv_bipush (v := nI 6) (q := 45) rfl dX7_one_43 rfl ?_
    refine xv_icmp_ge (q := 48) (t := 98) rfl rfl dX7_one_45 (fun h45 => ?_) (fun h45 => ?_)
    · have h45 : p = 6 := by have := nIle h45 (by omega) (by omega); omega
      subst h45
      exact KK J x _ _ hX
    · have h45 : p < 6 := nInle h45 (by omega) (by omega)
      have hX1 := hX.put (r := r) h45
      rw [zhx p] at hX1
      obtain ⟨hob, hoq⟩ := onf_b (dd := dd) (r := r) (tv := tv) hw.1 hn5 p
      have hot := ont_le (dd := dd) (r := r) (p := p) (tv := tv) hw.1 hn5
      refine xv_aload_n (q := 49) rfl dX7_one_48 rfl rfl ?_
      refine xv_geta (q := 52) rfl dX7_one_49 f_X7_41 (hg.1 _ _ rfl) (hg.2 _ _ _ rfl) ?_
      refine xv_iload_n (q := 53) rfl dX7_one_52 rfl rfl ?_
      refine xv_iload (q := 55) rfl dX7_one_53 rfl ?_
      refine xv_iast (q := 56) rfl dX7_one_55 (hg.1 _ _ rfl) rfl (by omega) (by decide) ?_
      refine xv_aload_n (q := 57) rfl dX7_one_56 rfl rfl ?_
      refine xv_aload_n (q := 58) rfl dX7_one_57 rfl rfl ?_
      refine xv_geti (q := 61) rfl dX7_one_58 f_X7_88 (hg.1 _ _ rfl) ?_
      rw [hX1.2.1.2.1]
      refine xv_cV1 (z := mX7_areTwo) (q := 64) rfl dX7_one_61 l_X7_101 gX7_areTwo (hg.1 _ _ rfl) rfl rfl rfl (m_two (d := d) hg hX1.2.1.1 hn5) (by omega) ?_
      rw [aks_on hw.2 hr]
      refine xv_if_ne (q := 67) (t := 92) rfl rfl dX7_one_64 (fun h64 => ?_) (fun h64 => ?_)
      · have h64 : ¬ oks (ci (setr c 5 r p)) r n = true := by have := bIn h64; rw [Bool.not_eq_true'] at this; rw [this]; decide
        refine xv_iinc (q := 95) (v := nI 1) rfl dX7_one_92 rfl rfl ?_
        refine xv_goto (t := 41) rfl dX7_one_95 ?_
        rw [nI_add]
        have zhz := fun l6 => ih (p + 1) _ (setr c 5 r p) l6 (by omega) (by omega) hX1 (fun _ => setr_setr)
        rw [show onf c n dd tv r (p + 1) = onf c n dd tv r p from if_neg h64] at zhz
        exact zhz _
      · have h64 : oks (ci (setr c 5 r p)) r n = true := by have := bIz h64; rw [Bool.not_eq_false'] at this; exact this
        refine xv_aload_n (q := 68) rfl dX7_one_67 rfl rfl ?_
        refine xv_rV0 (z := mX7_costOfStanding) (q := 71) rfl dX7_one_68 l_X7_301 gX7_costOfStanding (hg.1 _ _ rfl) rfl rfl rfl (m_cos (d := d) hg hX1.2.1 hX1.2.2.2.1 (all_32 hn5) (hX1.2.2.2.2.1.sx hX1.2.2.1) hX1.2.2.2.2.2.1 hX1.2.2.2.2.2.2 (fun r hr => (hw.1 r hr).2.2.2.2.2.1)) (by omega) ?_
        rintro _ _ J2 _ _ ⟨rfl, rfl, rfl, rfl, hF2⟩
        rw [mvs_one, if_pos hr, show rdc (setr c 5 r p) n dd (aln n) tv + (if p = c 5 r then 0 else prc c tv 2 r (c 3 r) (p / 2) 0) = ont c n dd tv r p from rfl]
        refine xv_istore (q := 73) rfl dX7_one_71 rfl ?_
        have hX2 := hX1.ri hF2
        cases zhq : onf c n dd tv r p with
        | none =>
          refine xv_iload_n (q := 74) rfl dX7_one_73 rfl rfl ?_
          refine xv_iconst (v := (-1)) (q := 75) rfl dX7_one_74 rfl ?_
          refine xv_icmp_eq (q := 78) (t := 85) rfl rfl dX7_one_75 (fun h75 => ?_) (fun h75 => ?_)
          · refine xv_iload (q := 87) rfl dX7_one_85 rfl ?_
            refine xv_istore_n (q := 88) rfl dX7_one_87 rfl rfl ?_
            refine xv_iload (q := 90) rfl dX7_one_88 rfl ?_
            refine xv_istore (q := 92) rfl dX7_one_90 rfl ?_
            refine xv_iinc (q := 95) (v := nI 1) rfl dX7_one_92 rfl rfl ?_
            refine xv_goto (t := 41) rfl dX7_one_95 ?_
            rw [nI_add]
            have zhz := fun l6 => ih (p + 1) J2 (setr c 5 r p) l6 (by omega) (by omega) hX2 (fun _ => setr_setr)
            rw [show onf c n dd tv r (p + 1) = some (p, ont c n dd tv r p) from (if_pos h64).trans (by rw [zhq]; rfl)] at zhz
            exact zhz _
          · exact absurd rfl h75
        | some z =>
          rw [zhq] at hob
          have hz6 := hoq z zhq
          refine xv_iload_n (q := 74) rfl dX7_one_73 rfl rfl ?_
          refine xv_iconst (v := (-1)) (q := 75) rfl dX7_one_74 rfl ?_
          refine xv_icmp_eq (q := 78) (t := 85) rfl rfl dX7_one_75 (fun h75 => ?_) (fun h75 => ?_)
          · exact absurd h75 (n_m1 (by omega))
          · refine xv_iload (q := 80) rfl dX7_one_78 rfl ?_
            refine xv_iload (q := 82) rfl dX7_one_80 rfl ?_
            refine xv_icmp_ge (q := 85) (t := 92) rfl rfl dX7_one_82 (fun h82 => ?_) (fun h82 => ?_)
            · have h82 : z.2 ≤ ont c n dd tv r p := nIle h82 (by have : z.2 ≤ 10449 := hob; omega) (by omega)
              refine xv_iinc (q := 95) (v := nI 1) rfl dX7_one_92 rfl rfl ?_
              refine xv_goto (t := 41) rfl dX7_one_95 ?_
              rw [nI_add]
              have zhz := fun l6 => ih (p + 1) J2 (setr c 5 r p) l6 (by omega) (by omega) hX2 (fun _ => setr_setr)
              rw [show onf c n dd tv r (p + 1) = some z from (if_pos h64).trans (by rw [zhq]; exact if_neg (by omega))] at zhz
              exact zhz _
            · have h82 : ont c n dd tv r p < z.2 := nInle h82 (by have : z.2 ≤ 10449 := hob; omega) (by omega)
              refine xv_iload (q := 87) rfl dX7_one_85 rfl ?_
              refine xv_istore_n (q := 88) rfl dX7_one_87 rfl rfl ?_
              refine xv_iload (q := 90) rfl dX7_one_88 rfl ?_
              refine xv_istore (q := 92) rfl dX7_one_90 rfl ?_
              refine xv_iinc (q := 95) (v := nI 1) rfl dX7_one_92 rfl rfl ?_
              refine xv_goto (t := 41) rfl dX7_one_95 ?_
              rw [nI_add]
              have zhz := fun l6 => ih (p + 1) J2 (setr c 5 r p) l6 (by omega) (by omega) hX2 (fun _ => setr_setr)
              rw [show onf c n dd tv r (p + 1) = some (p, ont c n dd tv r p) from (if_pos h64).trans (by rw [zhq]; exact if_pos h82)] at zhz
              exact zhz _
theorem m_one (hg : XG sh R) (hK : MKc I n c dd u) (hT : MTX I tc tx) (hu : u < tc) (x w : Int32) : XC E mX7_one (d + 47) 0 0 [.ref 61, .int x, .int w] sh I R L (QMq n (.int (sp_one n c dd (tvx tx u) x w)) sh I R L) := by
  have hu4 := hK.2.2.2.2.2.1
  refine XC.of (by decide) rfl rfl ?_
  refine xv_aload_n (q := 1) rfl dX7_one_0 rfl rfl ?_
  refine xv_iload_n (q := 2) rfl dX7_one_1 rfl rfl ?_
  refine xv_cV1 (z := mX7_isRider) (q := 5) rfl dX7_one_2 l_X7_105 gX7_isRider (hg.1 _ _ rfl) rfl rfl rfl (m_isR (d := d) hg hK.2.1 hK.2.2.1 x) (by omega) ?_
  refine xv_if_eq (q := 8) (t := 18) rfl rfl dX7_one_5 (fun zh5 => ?_) (fun zh5 => ?_)
  · have zh5 := bIz zh5
    rw [show sp_one n c dd (tvx tx u) x w = -2 from if_pos (Or.inl zh5)]
    refine xv_bipush (v := (-2)) (q := 20) rfl dX7_one_18 rfl ?_
    refine xv_iret dX7_one_20 rfl ?_
    exact QMq.rf
  · have zh5 := bIn zh5
    refine xv_iload_n (q := 9) rfl dX7_one_8 rfl rfl ?_
    refine xv_i2l (q := 10) rfl dX7_one_9 ?_
    refine xv_lconst (v := lN 0) (q := 11) rfl dX7_one_10 rfl ?_
    refine xv_lconst (v := lN 1) (q := 12) rfl dX7_one_11 rfl ?_
    refine xv_cS3 (z := mX7_in) (q := 15) rfl dX7_one_12 l_X7_91 gX7_in rfl (m_in (d := d) _ _ _) (by omega) ?_
    rw [lin_01]
    refine xv_if_ne (q := 18) (t := 21) rfl rfl dX7_one_15 (fun h15 => ?_) (fun h15 => ?_)
    · have h15 := of_decide_eq_false (Bool.not_eq_eq_eq_not.mp (bIn h15))
      obtain ⟨r, hr, rfl⟩ := isR_of hK.2.2.1 zh5
      have hsp : sp_one n c dd (tvx tx u) (nI r) w = _ := if_neg (fun z => z.elim (fun z => by rw [zh5] at z; cases z) h15)
      rw [hsp, nI_clamp (n := r) (by have := hK.2.2.1; omega)]
      refine xv_aload_n (q := 22) rfl dX7_one_21 rfl rfl ?_
      refine xv_aload_n (q := 23) rfl dX7_one_22 rfl rfl ?_
      refine xv_cV0 (z := mX7_allRiders) (q := 26) rfl dX7_one_23 l_X7_291 gX7_allRiders (hg.1 _ _ rfl) rfl rfl rfl (m_all (d := d) hg hK.2.1 hK.2.2.1) (by omega) ?_
      refine xv_rV1 (z := mX7_gathers) (q := 29) rfl dX7_one_26 l_X7_294 gX7_gathers (hg.1 _ _ rfl) rfl rfl rfl (m_gat (d := d) hg hK.cw hT hu4 hu (all_32 hK.2.2.1)) (by omega) ?_
      rintro _ _ J1 _ L1 ⟨rfl, rfl, rfl, hF1, hL1, hP1, hG1, hM1⟩
      refine xv_aload_n (q := 30) rfl dX7_one_29 rfl rfl ?_
      refine xv_rV0 (z := mX7_keeps) (q := 33) rfl dX7_one_30 l_X7_313 gX7_keeps (hg.1 _ _ rfl) rfl rfl rfl (m_keeps (d := d) hg) (by omega) ?_
      rintro _ _ J2 _ _ ⟨rfl, rfl, rfl, rfl, hk1, hk2⟩
      have hS := mst_0 (P := aln n) hK.cw hF1 hP1 hG1 hM1 hk1 hk2
      refine xv_iconst (v := (-1)) (q := 34) rfl dX7_one_33 rfl ?_
      refine xv_istore_n (q := 35) rfl dX7_one_34 rfl rfl ?_
      refine xv_iconst (v := nI 0) (q := 36) rfl dX7_one_35 rfl ?_
      refine xv_istore (q := 38) rfl dX7_one_36 rfl ?_
      refine xv_iconst (v := nI 0) (q := 39) rfl dX7_one_38 rfl ?_
      refine xv_istore (q := 41) rfl dX7_one_39 rfl ?_
      refine m_one_loop (d := d + 40) (tv := tvx tx u) hg hK.2.2.2.2.2.2 hK.2.2.1 hr (fun J x l5 l6 hX => ?_) 7 0 J2 c none (by omega) (by omega) hS (fun _ => rfl)
      refine xv_aload_n (q := 99) rfl dX7_one_98 rfl rfl ?_
      refine xv_rV0 (z := mX7_laysBack) (q := 102) rfl dX7_one_99 l_X7_316 gX7_laysBack (hg.1 _ _ rfl) rfl rfl rfl (m_laysBack (d := d) hg) (by omega) ?_
      rintro _ _ J5 _ _ ⟨rfl, rfl, rfl, rfl, hk3, hk4⟩
      have hB := mst_b hX hK.cw.2.2.2.2.2 hk3 hk4
      have hFq : FMq n I J5 := fmq_st hB.1 (fun r hr => (hB.2.1.1 5 r (by decide) hr).trans (hK.1 5 r (by decide) hr).symm)
      refine xv_iload_n (q := 103) rfl dX7_one_102 rfl rfl ?_
      refine xv_if_ne (q := 106) (t := 110) rfl rfl dX7_one_103 (fun h103 => ?_) (fun h103 => ?_)
      · rw [if_neg h103]
        refine xv_iload (q := 112) rfl dX7_one_110 rfl ?_
        refine xv_iret dX7_one_112 rfl ?_
        exact ⟨rfl, rfl, rfl, hFq, hL1⟩
      · rw [if_pos h103]
        refine xv_iload_n (q := 107) rfl dX7_one_106 rfl rfl ?_
        refine xv_goto (t := 112) rfl dX7_one_107 ?_
        refine xv_iret dX7_one_112 rfl ?_
        exact ⟨rfl, rfl, rfl, hFq, hL1⟩
    · have h15 := of_decide_eq_true (Bool.not_eq_eq_eq_not.mp (bIz h15))
      rw [show sp_one n c dd (tvx tx u) x w = -2 from if_pos (Or.inr h15)]
      refine xv_bipush (v := (-2)) (q := 20) rfl dX7_one_18 rfl ?_
      refine xv_iret dX7_one_20 rfl ?_
      exact QMq.rf
end MONE

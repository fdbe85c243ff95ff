/-! the model: seen -/
section MSEEN3
variable {E : XE} {d : Nat} {sh : XSh} {I : XI} {R : XRf} {L : XL} {n dd : Nat} {c : CR} {u : Nat} {sg : SG}
theorem fmq_se {ρ r : Nat} {J : XI} (h : FSe ρ r I J) (hρ : ρ < 7) (hv : J (65 + ρ) r = I (65 + ρ) r) : FMq n I J := ⟨fun k hk => h.1 k (by omega) (by omega), fun w a hw _ => by
  by_cases e : w = ρ
  · subst e
    by_cases ze2 : a = r
    · subst ze2; exact hv
    · exact h.2.2 a ze2
  · rw [h.1 _ (by omega) (by omega)], fun j zhj => h.2.1 j (by omega)⟩
theorem m_seen_fin (hg : XG sh R) (hK : MKc I n c dd u) {s ln : Nat} {it : Nat → Int32} (zhs : s < 4) (hln : ln ≤ 10) (h72 : I 80 s = nI ln) (h73 : ∀ i, i < ln → I 81 (40 * s + i) = it i) {r w : Nat} (hr : r < n) (hw : w < 3) {l4 : Int32} : XV E mX7_seen (d + 5) 0 0 (QMq n (.int (nI (wfb c n dd ln it (rw3 w) r (if w = 0 then c 3 r + 1 else 0) ((if w = 0 then 10 else 6) - (if w = 0 then c 3 r + 1 else 0))))) sh I R L) 0 0 101 [some (.ref 61), some (.int (nI s)), some (.int (nI r)), some (.int (nI w)), some (.int l4), some (.int (nI (c (rw3 w) r))), some (.int (nI 0)), some (.int (nI (if w = 0 then c 3 r + 1 else 0)))] [] sh I R L := by
  have zh3 := (hK.cw.2.2.2.2.2 r hr).2.2.2.1
  have hAB : (if w = 0 then c 3 r + 1 else 0) ≤ (if w = 0 then 10 else 6) := by split <;> omega
  refine m_seen_loop (d := d) (l4 := l4) (old := nI (c (rw3 w) r)) hg hK zhs hln h72 h73 hr hw (fun J hF => ?_) ((if w = 0 then 10 else 6) + 1) 0 I (by omega) (by omega) .rf
  refine xv_aload_n (q := 161) rfl dX7_seen_160 rfl rfl ?_
  refine xv_iload_n (q := 162) rfl dX7_seen_161 rfl rfl ?_
  refine xv_iload_n (q := 163) rfl dX7_seen_162 rfl rfl ?_
  refine xv_iload (q := 165) rfl dX7_seen_163 rfl ?_
  refine xv_cV3 (z := mX7_lays) (q := 168) rfl dX7_seen_165 l_X7_338 gX7_lays (hg.1 _ _ rfl) rfl rfl rfl (m_lays (d := d) (r := r) (w := w) hg (by have := hK.2.2.1; omega) hw) (by omega) ?_
  refine xv_iload (q := 170) rfl dX7_seen_168 rfl ?_
  refine xv_iret dX7_seen_170 rfl ?_
  exact ⟨rfl, rfl, rfl, fmq_se (hF.row (rw3_7 w)) (rw3_7 w) ((xi_eq _ _ _ _).trans (hK.1 _ r (rw3_7 w) hr).symm), .rf⟩
theorem m_seen (hg : XG sh R) (hK : MKc I n c dd u) (hS : KMs I sg) (x y w : Int32) : XC E mX7_seen (d + 5) 0 0 [.ref 61, .int x, .int y, .int w] sh I R L (QMq n (.int (sp_seen sg n c dd x y w)) sh I R L) := by
  refine XC.of (by decide) rfl rfl ?_
  refine xv_iload_n (q := 1) rfl dX7_seen_0 rfl rfl ?_
  refine xv_cS1 (z := mX7_isSheet) (q := 4) rfl dX7_seen_1 l_X7_329 gX7_isSheet rfl (m_isSh (d := d) x) (by omega) ?_
  refine xv_if_eq (q := 7) (t := 27) rfl rfl dX7_seen_4 (fun zh4 => ?_) (fun zh4 => ?_)
  · have zh4 := bIz zh4
    refine xv_bipush (v := (-2)) (q := 29) rfl dX7_seen_27 rfl ?_
    refine xv_iret dX7_seen_29 rfl ?_
    rw [show sp_seen sg n c dd x y w = -2 from if_pos (Or.inl zh4)]
    exact QMq.rf
  · have zh4 := bIn zh4
    refine xv_aload_n (q := 8) rfl dX7_seen_7 rfl rfl ?_
    refine xv_iload_n (q := 9) rfl dX7_seen_8 rfl rfl ?_
    refine xv_cV1 (z := mX7_isRider) (q := 12) rfl dX7_seen_9 l_X7_105 gX7_isRider (hg.1 _ _ rfl) rfl rfl rfl (m_isR (d := d) hg hK.2.1 hK.2.2.1 y) (by omega) ?_
    refine xv_if_eq (q := 15) (t := 27) rfl rfl dX7_seen_12 (fun h12 => ?_) (fun h12 => ?_)
    · have h12 := bIz h12
      refine xv_bipush (v := (-2)) (q := 29) rfl dX7_seen_27 rfl ?_
      refine xv_iret dX7_seen_29 rfl ?_
      rw [show sp_seen sg n c dd x y w = -2 from if_pos (Or.inr (Or.inl h12))]
      exact QMq.rf
    · have h12 := bIn h12
      refine xv_iload_n (q := 16) rfl dX7_seen_15 rfl rfl ?_
      refine xv_i2l (q := 17) rfl dX7_seen_16 ?_
      refine xv_lconst (v := lN 0) (q := 18) rfl dX7_seen_17 rfl ?_
      refine xv_ldc2 (q := 21) rfl dX7_seen_18 k_X7_108 ?_
      refine xv_cS3 (z := mX7_in) (q := 24) rfl dX7_seen_21 l_X7_91 gX7_in rfl (m_in (d := d) _ _ _) (by omega) ?_
      rw [lin_0n (k := 2) (by decide) rfl]
      refine xv_if_ne (q := 27) (t := 30) rfl rfl dX7_seen_24 (fun h24 => ?_) (fun h24 => ?_)
      · have h24 := of_decide_eq_false (Bool.not_eq_eq_eq_not.mp (bIn h24))
        obtain ⟨s, zhs, rfl⟩ := isSh_of zh4
        obtain ⟨r, hr, rfl⟩ := isR_of hK.2.2.1 h12
        have hsp : sp_seen sg n c dd (nI s) (nI r) w = _ := if_neg (fun z => z.elim (fun z => by rw [zh4] at z; cases z) (fun z => z.elim (fun z => by rw [h12] at z; cases z) h24))
        rw [hsp, nI_clamp (n := s) (by omega), nI_clamp (n := r) (by have := hK.2.2.1; omega)]
        refine xv_aload_n (q := 31) rfl dX7_seen_30 rfl rfl ?_
        refine xv_iload_n (q := 32) rfl dX7_seen_31 rfl rfl ?_
        refine xv_cV1 (z := mX7_landingsBad) (q := 35) rfl dX7_seen_32 l_X7_332 gX7_landingsBad (hg.1 _ _ rfl) rfl rfl rfl (m_lbad (d := d) hg hS (nI s)) (by omega) ?_
        have hlb : lbd sg (nI s) = (rfs (sg s)).2 := (if_neg (by rw [zh4]; decide)).trans (by rw [nI_clamp (n := s) (by omega)])
        refine xv_istore (q := 37) rfl dX7_seen_35 rfl ?_
        refine xv_iload (q := 39) rfl dX7_seen_37 rfl ?_
        refine xv_if_eq (q := 42) (t := 45) rfl rfl dX7_seen_39 (fun h39 => ?_) (fun h39 => ?_)
        · rw [hlb] at h39
          cases zhq : (rfs (sg s)).1 with
          | none => exact absurd h39 (rfs_n zhq)
          | some z =>
          obtain ⟨zq1, zq2, zq3⟩ := kms_at hS zhs zhq
          dsimp only
          have hn5 := hK.2.2.1
          refine xv_iload_n (q := 46) rfl dX7_seen_45 rfl rfl ?_
          refine xv_if_ne (q := 49) (t := 58) rfl rfl dX7_seen_46 (fun h46 => ?_) (fun h46 => ?_)
          · rw [if_neg h46]
            refine xv_iload_n (q := 59) rfl dX7_seen_58 rfl rfl ?_
            refine xv_iconst (v := nI 1) (q := 60) rfl dX7_seen_59 rfl ?_
            refine xv_icmp_ne (q := 63) (t := 72) rfl rfl dX7_seen_60 (fun h60 => ?_) (fun h60 => ?_)
            · rw [if_neg h60]
              obtain rfl : w = nI 2 := by
                rcases pk_ix w (n := 3) (by decide) with z | z | ⟨j, zhj, rfl⟩
                · exact absurd (Or.inl z) h24
                · exact absurd (Or.inr (fun q => absurd (Int32.le_trans z q) (by decide))) h24
                · obtain rfl | rfl | rfl : j = 0 ∨ j = 1 ∨ j = 2 := by omega
                  · exact absurd rfl h46
                  · exact absurd rfl h60
                  · rfl
              refine xv_aload_n (q := 73) rfl dX7_seen_72 rfl rfl ?_
              refine xv_geta (q := 76) rfl dX7_seen_73 f_X7_26 (hg.1 _ _ rfl) (hg.2 _ _ _ rfl) ?_
              refine xv_iload_n (q := 77) rfl dX7_seen_76 rfl rfl ?_
              refine xv_iald (q := 78) rfl dX7_seen_77 (hg.1 _ _ rfl) rfl (by omega) (by decide) ?_
              refine xv_as (w := nI (c 0 r)) (hK.1 0 r (by decide) hr) ?_
              refine xv_istore (q := 80) rfl dX7_seen_78 rfl ?_
              refine xv_iconst (v := nI 0) (q := 81) rfl dX7_seen_80 rfl ?_
              refine xv_istore (q := 83) rfl dX7_seen_81 rfl ?_
              refine xv_iload_n (q := 84) rfl dX7_seen_83 rfl rfl ?_
              refine xv_if_ne (q := 87) (t := 98) rfl rfl dX7_seen_84 (fun h84 => ?_) (fun h84 => ?_)
              · refine xv_iconst (v := nI 0) (q := 99) rfl dX7_seen_98 rfl ?_
                refine xv_istore (q := 101) rfl dX7_seen_99 rfl ?_
                have zhz := m_seen_fin (E := E) (d := d) (L := L) (l4 := lbd sg (nI s)) hg hK zhs zq1 zq2 zq3 hr (w := 2) (by decide)
                exact zhz
              · exact absurd h84 (by decide)
            · have h60 : w = nI 1 := h60
              subst h60
              rw [if_pos rfl]
              refine xv_aload_n (q := 64) rfl dX7_seen_63 rfl rfl ?_
              refine xv_geta (q := 67) rfl dX7_seen_64 f_X7_41 (hg.1 _ _ rfl) (hg.2 _ _ _ rfl) ?_
              refine xv_iload_n (q := 68) rfl dX7_seen_67 rfl rfl ?_
              refine xv_iald (q := 69) rfl dX7_seen_68 (hg.1 _ _ rfl) rfl (by omega) (by decide) ?_
              refine xv_as (w := nI (c 5 r)) (hK.1 5 r (by decide) hr) ?_
              refine xv_goto (t := 78) rfl dX7_seen_69 ?_
              refine xv_istore (q := 80) rfl dX7_seen_78 rfl ?_
              refine xv_iconst (v := nI 0) (q := 81) rfl dX7_seen_80 rfl ?_
              refine xv_istore (q := 83) rfl dX7_seen_81 rfl ?_
              refine xv_iload_n (q := 84) rfl dX7_seen_83 rfl rfl ?_
              refine xv_if_ne (q := 87) (t := 98) rfl rfl dX7_seen_84 (fun h84 => ?_) (fun h84 => ?_)
              · refine xv_iconst (v := nI 0) (q := 99) rfl dX7_seen_98 rfl ?_
                refine xv_istore (q := 101) rfl dX7_seen_99 rfl ?_
                have zhz := m_seen_fin (E := E) (d := d) (L := L) (l4 := lbd sg (nI s)) hg hK zhs zq1 zq2 zq3 hr (w := 1) (by decide)
                exact zhz
              · exact absurd h84 (by decide)
          · have h46 : w = nI 0 := h46
            subst h46
            rw [if_pos (show nI 0 = 0 from rfl)]
            refine xv_aload_n (q := 50) rfl dX7_seen_49 rfl rfl ?_
            refine xv_geta (q := 53) rfl dX7_seen_50 f_X7_38 (hg.1 _ _ rfl) (hg.2 _ _ _ rfl) ?_
            refine xv_iload_n (q := 54) rfl dX7_seen_53 rfl rfl ?_
            refine xv_iald (q := 55) rfl dX7_seen_54 (hg.1 _ _ rfl) rfl (by omega) (by decide) ?_
            refine xv_as (w := nI (c 4 r)) (hK.1 4 r (by decide) hr) ?_
            refine xv_goto (t := 78) rfl dX7_seen_55 ?_
            refine xv_istore (q := 80) rfl dX7_seen_78 rfl ?_
            refine xv_iconst (v := nI 0) (q := 81) rfl dX7_seen_80 rfl ?_
            refine xv_istore (q := 83) rfl dX7_seen_81 rfl ?_
            refine xv_iload_n (q := 84) rfl dX7_seen_83 rfl rfl ?_
            refine xv_if_ne (q := 87) (t := 98) rfl rfl dX7_seen_84 (fun h84 => ?_) (fun h84 => ?_)
            · exact absurd rfl h84
            · refine xv_aload_n (q := 88) rfl dX7_seen_87 rfl rfl ?_
              refine xv_geta (q := 91) rfl dX7_seen_88 f_X7_35 (hg.1 _ _ rfl) (hg.2 _ _ _ rfl) ?_
              refine xv_iload_n (q := 92) rfl dX7_seen_91 rfl rfl ?_
              refine xv_iald (q := 93) rfl dX7_seen_92 (hg.1 _ _ rfl) rfl (by omega) (by decide) ?_
              refine xv_as (w := nI (c 3 r)) (hK.1 3 r (by decide) hr) ?_
              refine xv_iconst (v := nI 1) (q := 94) rfl dX7_seen_93 rfl ?_
              refine xv_iadd (q := 95) rfl dX7_seen_94 ?_
              refine xv_as (w := nI (c 3 r + 1)) (nI_add _ _) ?_
              refine xv_goto (t := 99) rfl dX7_seen_95 ?_
              refine xv_istore (q := 101) rfl dX7_seen_99 rfl ?_
              have zh3 := (hK.cw.2.2.2.2.2 r hr).2.2.2.1
              have zhz := m_seen_fin (E := E) (d := d) (L := L) (l4 := lbd sg (nI s)) hg hK zhs zq1 zq2 zq3 hr (w := 0) (by decide)
              rw [if_pos rfl, if_pos rfl, show 10 - (c 3 r + 1) = 9 - c 3 r by omega] at zhz
              exact zhz
        · rw [hlb] at h39
          cases zhq : (rfs (sg s)).1 with
          | some z => exact absurd (rfs_s zhq).1 h39
          | none =>
          dsimp only
          rw [← hlb]
          refine xv_iload (q := 44) rfl dX7_seen_42 rfl ?_
          refine xv_iret dX7_seen_44 rfl ?_
          exact QMq.rf
      · have h24 := of_decide_eq_true (Bool.not_eq_eq_eq_not.mp (bIz h24))
        refine xv_bipush (v := (-2)) (q := 29) rfl dX7_seen_27 rfl ?_
        refine xv_iret dX7_seen_29 rfl ?_
        rw [show sp_seen sg n c dd x y w = -2 from if_pos (Or.inr (Or.inr h24))]
        exact QMq.rf
end MSEEN3

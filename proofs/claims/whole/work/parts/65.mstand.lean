/-! the model: stand, stands -/
theorem fmq_st {n : Nat} {I J : XI} (h : FSt I J) (zh2 : ∀ r, r < n → J 70 r = I 70 r) : FMq n I J := ⟨fun k hk => h.1 k (by omega) (by omega) (by omega), fun w r hw hr => by
  by_cases e : w = 5
  · subst e; exact zh2 r hr
  · rw [h.1 _ (by omega) (by omega) (by omega)], fun j zhj => h.2 j zhj⟩
/-- places kept, the trip gathered -/
theorem mst_0 {I J K : XI} {n dd P : Nat} {c : CR} {tv : TV} (h : MCw I n c dd) (hF : FGt I J) (hP : J 61 34 = nI P) (hG : MGa J n c tv P) (hM : GMo J n c tv) (zh1 : ∀ a, a ≠ 75 → K a = J a) (zh2 : ∀ a, a < 5 → K 75 a = J 70 a) : MSt I K n c c dd P tv := by
  have e53 : K 61 = J 61 := zh1 61 (by decide)
  have hJ := hF.cw h
  have hc : MCw K n c dd := hJ.mv (fun k a b => zh1 k (by omega)) (by rw [e53]) (by rw [e53])
  refine ⟨hF.st.trans ⟨fun k a b e => zh1 k (by omega), fun j _ => by rw [e53]⟩, hc, SX.rf, by rw [e53]; exact hP, fun o f w za1 za2 za3 za4 za5 => by rw [zh1 72 (by decide), zh1 73 (by decide)]; exact hG o f w za1 za2 za3 za4 za5, fun o w za1 za2 => by rw [zh1 74 (by decide)]; exact hM o w za1 za2, fun r hr => ?_⟩
  rw [zh2 r (by have := h.2.2.1; omega)]
  exact hJ.1 5 r (by decide) hr
/-- laid back -/
theorem mst_b {I J K : XI} {n dd P : Nat} {c x : CR} {tv : TV} (h : MSt I J n c x dd P tv) (hw : wfn c n) (zh1 : ∀ a, a ≠ 70 → K a = J a) (zh2 : ∀ a, a < 5 → K 70 a = J 75 a) : MSt I K n c c dd P tv := by
  have e53 : K 61 = J 61 := zh1 61 (by decide)
  obtain ⟨hF, hc, hX, hP, hG, hM, hk⟩ := h
  refine ⟨hF.trans ⟨fun k a b e => zh1 k b, fun j _ => by rw [e53]⟩, ⟨fun w r hw hr => ?_, by rw [e53]; exact hc.2.1, hc.2.2.1, by rw [e53]; exact hc.2.2.2.1, hc.2.2.2.2.1, hw⟩, SX.rf, by rw [e53]; exact hP, fun o f w za1 za2 za3 za4 za5 => by rw [zh1 72 (by decide), zh1 73 (by decide)]; exact hG o f w za1 za2 za3 za4 za5, fun o w za1 za2 => by rw [zh1 74 (by decide)]; exact hM o w za1 za2, fun r hr => by rw [zh1 75 (by decide)]; exact hk r hr⟩
  by_cases e : w = 5
  · subst e
    rw [zh2 r (by have := hc.2.2.1; omega)]
    exact hk r hr
  · rw [zh1 _ (by omega), hc.1 w r hw hr]
    unfold ci
    rw [hX w e]
section MSTAND
variable {E : XE} {d : Nat} {sh : XSh} {I : XI} {R : XRf} {L : XL} {n dd : Nat} {c : CR} {tc u : Nat} {tx : TXS}
/-- what seeks leaves -/
def QSk (n : Nat) (c : CR) (dd : Nat) (tv : TV) (sh : XSh) (I : XI) (R : XRf) (L : XL) : XQ := fun v sh' J R' L' => v = none ∧ sh' = sh ∧ R' = R ∧ FL L L' ∧ SRm J n (sres c n dd tv) ∧ MSt I J n c c dd (aln n) tv
theorem m_seeks (hg : XG sh R) (hK : MKc I n c dd u) (hT : MTX I tc tx) (hu : u < tc) : XC E mX7_seeks (d + 46) 0 0 [.ref 61] sh I R L (QSk n c dd (tvx tx u) sh I R L) := by
  have hu4 := hK.2.2.2.2.2.1
  refine XC.of (by decide) rfl rfl ?_
  refine xv_aload_n (q := 1) rfl dX7_seeks_0 rfl rfl ?_
  refine xv_aload_n (q := 2) rfl dX7_seeks_1 rfl rfl ?_
  refine xv_cV0 (z := mX7_allRiders) (q := 5) rfl dX7_seeks_2 l_X7_291 gX7_allRiders (hg.1 _ _ rfl) rfl rfl rfl (m_all (d := d) hg hK.2.1 hK.2.2.1) (by omega) ?_
  refine xv_rV1 (z := mX7_gathers) (q := 8) rfl dX7_seeks_5 l_X7_294 gX7_gathers (hg.1 _ _ rfl) rfl rfl rfl (m_gat (d := d) hg hK.cw hT hu4 hu (all_32 hK.2.2.1)) (by omega) ?_
  rintro _ _ J1 _ L1 ⟨rfl, rfl, rfl, hF1, hL1, hP1, hG1, hM1⟩
  refine xv_aload_n (q := 9) rfl dX7_seeks_8 rfl rfl ?_
  refine xv_rV0 (z := mX7_keeps) (q := 12) rfl dX7_seeks_9 l_X7_313 gX7_keeps (hg.1 _ _ rfl) rfl rfl rfl (m_keeps (d := d) hg) (by omega) ?_
  rintro _ _ J2 _ _ ⟨rfl, rfl, rfl, rfl, hk1, hk2⟩
  have hS := (mst_0 (P := aln n) hK.cw hF1 hP1 hG1 hM1 hk1 hk2).f (j := 40) (v := nI 0) (by decide) (by decide)
  refine xv_aload_n (q := 13) rfl dX7_seeks_12 rfl rfl ?_
  refine xv_iconst (v := nI 0) (q := 14) rfl dX7_seeks_13 rfl ?_
  refine xv_putz (q := 17) rfl dX7_seeks_14 f_X7_304 (fun h => by cases h) (hg.1 _ _ rfl) (by decide) ?_
  refine xv_aload_n (q := 18) rfl dX7_seeks_17 rfl rfl ?_
  refine xv_iconst (v := nI 0) (q := 19) rfl dX7_seeks_18 rfl ?_
  refine xv_rV1 (z := mX7_putsFrom) (q := 22) rfl dX7_seeks_19 l_X7_310 gX7_putsFrom (hg.1 _ _ rfl) rfl rfl rfl (m_puts (d := d) (tv := tvx tx u) (I := I) hg (fun r hr => (hK.cw.2.2.2.2.2 r hr).2.2.2.2.2.1) hK.2.2.1 n 0 c none _ c (by omega) SX.rf rfl hS ⟨SX.rf, fun a ha => absurd ha (by omega)⟩ (xi_eq _ _ _ _)) (by have := hK.2.2.1; omega) ?_
  rintro _ _ J4 _ _ ⟨rfl, rfl, rfl, rfl, hS4, x, hX4, -⟩
  refine xv_aload_n (q := 23) rfl dX7_seeks_22 rfl rfl ?_
  refine xv_rV0 (z := mX7_laysBack) (q := 26) rfl dX7_seeks_23 l_X7_316 gX7_laysBack (hg.1 _ _ rfl) rfl rfl rfl (m_laysBack (d := d) hg) (by omega) ?_
  rintro _ _ J5 _ _ ⟨rfl, rfl, rfl, rfl, hk3, hk4⟩
  refine xv_vret dX7_seeks_26 rfl ?_
  exact ⟨rfl, rfl, rfl, hL1, hS4.mv (by rw [hk3 61 (by decide)]) (by rw [hk3 61 (by decide)]) (hk3 76 (by decide)), mst_b hX4 hK.cw.2.2.2.2.2 hk3 hk4⟩
theorem m_stand (hg : XG sh R) (hK : MKc I n c dd u) (hT : MTX I tc tx) (hu : u < tc) (w : Int32) : XC E mX7_stand (d + 47) 0 0 [.ref 61, .int w] sh I R L (QMq n (.int (sp_stand n c dd (tvx tx u) w)) sh I R L) := by
  obtain ⟨z, hz1, hz2, hz3, hz4⟩ := sres_some (c := c) (n := n) (dd := dd) (tv := tvx tx u) hK.cw.2.2.2.2.2 hK.2.2.2.2.2.2.2
  refine XC.of (by decide) rfl rfl ?_
  refine xv_iload_n (q := 1) rfl dX7_stand_0 rfl rfl ?_
  refine xv_iconst (v := (-1)) (q := 2) rfl dX7_stand_1 rfl ?_
  refine xv_icmp_eq (q := 5) (t := 16) rfl rfl dX7_stand_2 (fun zh2 => ?_) (fun zh2 => ?_)
  · have zh2 : w = -1 := zh2
    have hsp : sp_stand n c dd (tvx tx u) w = nI (sct c n dd (tvx tx u)) := (if_neg (fun z => z.1 zh2)).trans (if_pos zh2)
    refine xv_aload_n (q := 17) rfl dX7_stand_16 rfl rfl ?_
    refine xv_rV0 (z := mX7_seeks) (q := 20) rfl dX7_stand_17 l_X7_319 gX7_seeks (hg.1 _ _ rfl) rfl rfl rfl (m_seeks (d := d) hg hK hT hu) (by omega) ?_
    rintro _ _ J1 _ L1 ⟨rfl, rfl, rfl, hL1, hS1, hX1⟩
    rw [hz1] at hS1
    have hFq : FMq n I J1 := fmq_st hX1.1 (fun r hr => (hX1.2.1.1 5 r (by decide) hr).trans (hK.1 5 r (by decide) hr).symm)
    refine xv_iload_n (q := 21) rfl dX7_stand_20 rfl rfl ?_
    refine xv_iconst (v := (-1)) (q := 22) rfl dX7_stand_21 rfl ?_
    refine xv_icmp_ne (q := 25) (t := 32) rfl rfl dX7_stand_22 (fun h22 => ?_) (fun h22 => ?_)
    · exact absurd zh2 h22
    · refine xv_aload_n (q := 26) rfl dX7_stand_25 rfl rfl ?_
      refine xv_geti (q := 29) rfl dX7_stand_26 f_X7_307 (hg.1 _ _ rfl) ?_
      rw [hS1.2.1, ← hz3, ← hsp]
      refine xv_goto (t := 38) rfl dX7_stand_29 ?_
      refine xv_iret dX7_stand_38 rfl ?_
      exact ⟨rfl, rfl, rfl, hFq, hL1⟩
  · have zh2 : ¬ w = -1 := zh2
    refine xv_aload_n (q := 6) rfl dX7_stand_5 rfl rfl ?_
    refine xv_iload_n (q := 7) rfl dX7_stand_6 rfl rfl ?_
    refine xv_cV1 (z := mX7_isRider) (q := 10) rfl dX7_stand_7 l_X7_105 gX7_isRider (hg.1 _ _ rfl) rfl rfl rfl (m_isR (d := d) hg hK.2.1 hK.2.2.1 w) (by omega) ?_
    refine xv_if_ne (q := 13) (t := 16) rfl rfl dX7_stand_10 (fun h10 => ?_) (fun h10 => ?_)
    · have h10 := bIn h10
      obtain ⟨j, zhj, rfl⟩ : ∃ j, j < n ∧ w = nI j := isR_of hK.2.2.1 h10
      have hsp : sp_stand n c dd (tvx tx u) (nI j) = nI (spl c n dd (tvx tx u) j) := by
        unfold sp_stand
        rw [if_neg (fun z => by rw [h10] at z; cases z.2), if_neg zh2, nI_clamp (n := j) (by have := hK.2.2.1; omega)]
      refine xv_aload_n (q := 17) rfl dX7_stand_16 rfl rfl ?_
      refine xv_rV0 (z := mX7_seeks) (q := 20) rfl dX7_stand_17 l_X7_319 gX7_seeks (hg.1 _ _ rfl) rfl rfl rfl (m_seeks (d := d) hg hK hT hu) (by omega) ?_
      rintro _ _ J1 _ L1 ⟨rfl, rfl, rfl, hL1, hS1, hX1⟩
      rw [hz1] at hS1
      have hFq : FMq n I J1 := fmq_st hX1.1 (fun r hr => (hX1.2.1.1 5 r (by decide) hr).trans (hK.1 5 r (by decide) hr).symm)
      refine xv_iload_n (q := 21) rfl dX7_stand_20 rfl rfl ?_
      refine xv_iconst (v := (-1)) (q := 22) rfl dX7_stand_21 rfl ?_
      refine xv_icmp_ne (q := 25) (t := 32) rfl rfl dX7_stand_22 (fun h22 => ?_) (fun h22 => ?_)
      · refine xv_aload_n (q := 33) rfl dX7_stand_32 rfl rfl ?_
        refine xv_geta (q := 36) rfl dX7_stand_33 f_X7_59 (hg.1 _ _ rfl) (hg.2 _ _ _ rfl) ?_
        refine xv_iload_n (q := 37) rfl dX7_stand_36 rfl rfl ?_
        refine xv_iald (q := 38) rfl dX7_stand_37 (hg.1 _ _ rfl) rfl (by have := hK.2.2.1; omega) (by decide) ?_
        rw [hS1.2.2.2 j zhj, ← hz4, ← hsp]
        refine xv_iret dX7_stand_38 rfl ?_
        exact ⟨rfl, rfl, rfl, hFq, hL1⟩
      · exact absurd h22 zh2
    · have h10 := bIz h10
      have hsp : sp_stand n c dd (tvx tx u) w = -100 := if_pos ⟨zh2, h10⟩
      rw [hsp]
      refine xv_bipush (v := (-100)) (q := 15) rfl dX7_stand_13 rfl ?_
      refine xv_iret dX7_stand_15 rfl ?_
      exact QMq.rf
/-- a question that moves riders -/
def FMf (I J : XI) : Prop := (∀ k, (k < 61 ∨ k = 62 ∨ k = 63 ∨ k = 64 ∨ k = 77 ∨ 78 ≤ k) → J k = I k) ∧ ∀ j, (j < 16 ∨ 42 ≤ j) → J 61 j = I 61 j
def QMs (n : Nat) (c : CR) (dd u : Nat) (tv : TV) (sh : XSh) (I : XI) (R : XRf) (L : XL) : XQ := fun v sh' J R' L' => v = some (.int (nI (mvd c (spl c n dd tv) n))) ∧ sh' = sh ∧ R' = R ∧ FL L L' ∧ FMf I J ∧ MKc J n (stc c n (spl c n dd tv)) dd u
/-- r riders have gone where they should -/
def stn (c : CR) (r : Nat) (pl : Nat → Nat) : CR := fun w a => if w = 5 ∧ a < r then pl a else c w a
theorem m_stands_loop (hg : XG sh R) (hK : MKc I n c dd u) {tv : TV} {L1 : XL} (hL : FL L L1) : ∀ (k r : Nat) (J : XI), r ≤ n → n < r + k → FSt I J → (∀ w a, w < 7 → a < n → J (65 + w) a = nI (stn c r (spl c n dd tv) w a)) → (∀ a, a < n → J 76 a = nI (spl c n dd tv a)) → (∀ a, a < n → spl c n dd tv a < 6) → XV E mX7_stands (d + 47) 0 0 (QMs n c dd u tv sh I R L) 0 0 8 [some (.ref 61), some (.int (nI (mvd c (spl c n dd tv) r))), some (.int (nI r))] [] sh J R L1 := by
  intro k
  induction k with
  | zero => intro r J zh1 zh2; exact absurd zh2 (by omega)
  | succ k ih =>
    intro r J zh1 zh2 hF hR h68 hp6
    have hn : J 61 15 = nI n := (hF.2 15 (by decide)).trans hK.2.1
    have hn5 := hK.2.2.1
    refine xv_iload_n (q := 9) rfl dX7_stands_8 rfl rfl ?_
    refine xv_aload_n (q := 10) rfl dX7_stands_9 rfl rfl ?_
    refine xv_geti (q := 13) rfl dX7_stands_10 f_X7_88 (hg.1 _ _ rfl) ?_
    rw [hn]
    refine xv_icmp_ge (q := 16) (t := 57) rfl rfl dX7_stands_13 (fun h13 => ?_) (fun h13 => ?_)
    · have h13 := nIle h13 (by omega) (by omega)
      obtain rfl : r = n := by omega
      refine xv_iload_n (q := 58) rfl dX7_stands_57 rfl rfl ?_
      refine xv_iret dX7_stands_58 rfl ?_
      exact ⟨rfl, rfl, rfl, hL, ⟨fun k hk => hF.1 k (by omega) (by omega) (by omega), hF.2⟩, fun w a hw ha => (hR w a hw ha).trans (by unfold ci stn stc; rfl), hn, hn5, (hF.2 7 (by decide)).trans hK.2.2.2.1, hK.2.2.2.2.1, (hF.2 4 (by decide)).trans hK.2.2.2.2.2.1, stc_wf hK.2.2.2.2.2.2⟩
    · have h13 : r < n := nInle h13 (by omega) (by omega)
      have zw5 := (hK.cw.2.2.2.2.2 r h13).2.2.2.2.2.1
      have hpr := hp6 r h13
      refine xv_iload_n (q := 17) rfl dX7_stands_16 rfl rfl ?_
      refine xv_aload_n (q := 18) rfl dX7_stands_17 rfl rfl ?_
      refine xv_geta (q := 21) rfl dX7_stands_18 f_X7_41 (hg.1 _ _ rfl) (hg.2 _ _ _ rfl) ?_
      refine xv_iload_n (q := 22) rfl dX7_stands_21 rfl rfl ?_
      refine xv_iald (q := 23) rfl dX7_stands_22 (hg.1 _ _ rfl) rfl (by omega) (by decide) ?_
      refine xv_as (w := nI (c 5 r)) ((hR 5 r (by decide) h13).trans (by rw [show stn c r (spl c n dd tv) 5 r = c 5 r from if_neg (by omega)])) ?_
      refine xv_aload_n (q := 24) rfl dX7_stands_23 rfl rfl ?_
      refine xv_geta (q := 27) rfl dX7_stands_24 f_X7_59 (hg.1 _ _ rfl) (hg.2 _ _ _ rfl) ?_
      refine xv_iload_n (q := 28) rfl dX7_stands_27 rfl rfl ?_
      refine xv_iald (q := 29) rfl dX7_stands_28 (hg.1 _ _ rfl) rfl (by omega) (by decide) ?_
      refine xv_as (w := nI (spl c n dd tv r)) (h68 r h13) ?_
      refine xv_icmp_eq (q := 32) (t := 36) rfl rfl dX7_stands_29 (fun h29 => ?_) (fun h29 => ?_)
      · have h29 : c 5 r = spl c n dd tv r := (nI_eq (by omega) (by omega)).mp h29
        refine xv_iconst (v := nI 0) (q := 37) rfl dX7_stands_36 rfl ?_
        refine xv_iadd (q := 38) rfl dX7_stands_37 ?_
        refine xv_istore_n (q := 39) rfl dX7_stands_38 rfl rfl ?_
        refine xv_aload_n (q := 40) rfl dX7_stands_39 rfl rfl ?_
        refine xv_geta (q := 43) rfl dX7_stands_40 f_X7_41 (hg.1 _ _ rfl) (hg.2 _ _ _ rfl) ?_
        refine xv_iload_n (q := 44) rfl dX7_stands_43 rfl rfl ?_
        refine xv_aload_n (q := 45) rfl dX7_stands_44 rfl rfl ?_
        refine xv_geta (q := 48) rfl dX7_stands_45 f_X7_59 (hg.1 _ _ rfl) (hg.2 _ _ _ rfl) ?_
        refine xv_iload_n (q := 49) rfl dX7_stands_48 rfl rfl ?_
        refine xv_iald (q := 50) rfl dX7_stands_49 (hg.1 _ _ rfl) rfl (by omega) (by decide) ?_
        refine xv_as (w := nI (spl c n dd tv r)) (h68 r h13) ?_
        refine xv_iast (q := 51) rfl dX7_stands_50 (hg.1 _ _ rfl) rfl (by omega) (by decide) ?_
        refine xv_iinc (q := 54) (v := nI 1) rfl dX7_stands_51 rfl rfl ?_
        refine xv_goto (t := 8) rfl dX7_stands_54 ?_
        have zhz := ih (r + 1) (xi J 70 r (nI (spl c n dd tv r))) (by omega) (by omega) (hF.trans (fst_c (Or.inl rfl))) (fun w a hw ha => ?_) (fun a ha => by rw [xi_off _ _ _ _ (by decide)]; exact h68 a ha) hp6
        · rw [show mvd c (spl c n dd tv) (r + 1) = mvd c (spl c n dd tv) r + (if c 5 r = spl c n dd tv r then 0 else 1) from rfl, if_pos h29] at zhz
          rw [nI_add, nI_add]
          exact zhz
        · by_cases e : w = 5 ∧ a = r
          · obtain ⟨rfl, rfl⟩ := e
            rw [show stn c (a + 1) (spl c n dd tv) 5 a = spl c n dd tv a from if_pos ⟨rfl, Nat.lt_succ_self a⟩]
            exact xi_eq _ _ _ _
          · rw [xi_ne _ _ _ _ (fun z => e ⟨by omega, z.2⟩), hR w a hw ha]
            congr 1
            unfold stn
            by_cases ze2 : w = 5 ∧ a < r
            · rw [if_pos ze2, if_pos ⟨ze2.1, by omega⟩]
            · rw [if_neg ze2, if_neg (fun z => ze2 ⟨z.1, by have := z.2; have zh3 : a ≠ r := fun q => e ⟨z.1, q⟩; omega⟩)]
      · have h29 : ¬ c 5 r = spl c n dd tv r := fun z => h29 (by rw [z])
        refine xv_iconst (v := nI 1) (q := 33) rfl dX7_stands_32 rfl ?_
        refine xv_goto (t := 37) rfl dX7_stands_33 ?_
        refine xv_iadd (q := 38) rfl dX7_stands_37 ?_
        refine xv_istore_n (q := 39) rfl dX7_stands_38 rfl rfl ?_
        refine xv_aload_n (q := 40) rfl dX7_stands_39 rfl rfl ?_
        refine xv_geta (q := 43) rfl dX7_stands_40 f_X7_41 (hg.1 _ _ rfl) (hg.2 _ _ _ rfl) ?_
        refine xv_iload_n (q := 44) rfl dX7_stands_43 rfl rfl ?_
        refine xv_aload_n (q := 45) rfl dX7_stands_44 rfl rfl ?_
        refine xv_geta (q := 48) rfl dX7_stands_45 f_X7_59 (hg.1 _ _ rfl) (hg.2 _ _ _ rfl) ?_
        refine xv_iload_n (q := 49) rfl dX7_stands_48 rfl rfl ?_
        refine xv_iald (q := 50) rfl dX7_stands_49 (hg.1 _ _ rfl) rfl (by omega) (by decide) ?_
        refine xv_as (w := nI (spl c n dd tv r)) (h68 r h13) ?_
        refine xv_iast (q := 51) rfl dX7_stands_50 (hg.1 _ _ rfl) rfl (by omega) (by decide) ?_
        refine xv_iinc (q := 54) (v := nI 1) rfl dX7_stands_51 rfl rfl ?_
        refine xv_goto (t := 8) rfl dX7_stands_54 ?_
        have zhz := ih (r + 1) (xi J 70 r (nI (spl c n dd tv r))) (by omega) (by omega) (hF.trans (fst_c (Or.inl rfl))) (fun w a hw ha => ?_) (fun a ha => by rw [xi_off _ _ _ _ (by decide)]; exact h68 a ha) hp6
        · rw [show mvd c (spl c n dd tv) (r + 1) = mvd c (spl c n dd tv) r + (if c 5 r = spl c n dd tv r then 0 else 1) from rfl, if_neg h29] at zhz
          rw [nI_add, nI_add]
          exact zhz
        · by_cases e : w = 5 ∧ a = r
          · obtain ⟨rfl, rfl⟩ := e
            rw [show stn c (a + 1) (spl c n dd tv) 5 a = spl c n dd tv a from if_pos ⟨rfl, Nat.lt_succ_self a⟩]
            exact xi_eq _ _ _ _
          · rw [xi_ne _ _ _ _ (fun z => e ⟨by omega, z.2⟩), hR w a hw ha]
            congr 1
            unfold stn
            by_cases ze2 : w = 5 ∧ a < r
            · rw [if_pos ze2, if_pos ⟨ze2.1, by omega⟩]
            · rw [if_neg ze2, if_neg (fun z => ze2 ⟨z.1, by have := z.2; have zh3 : a ≠ r := fun q => e ⟨z.1, q⟩; omega⟩)]
theorem m_stands (hg : XG sh R) (hK : MKc I n c dd u) (hT : MTX I tc tx) (hu : u < tc) : XC E mX7_stands (d + 47) 0 0 [.ref 61] sh I R L (QMs n c dd u (tvx tx u) sh I R L) := by
  obtain ⟨z, hz1, hz2, hz3, hz4⟩ := sres_some (c := c) (n := n) (dd := dd) (tv := tvx tx u) hK.cw.2.2.2.2.2 hK.2.2.2.2.2.2.2
  refine XC.of (by decide) rfl rfl ?_
  refine xv_aload_n (q := 1) rfl dX7_stands_0 rfl rfl ?_
  refine xv_rV0 (z := mX7_seeks) (q := 4) rfl dX7_stands_1 l_X7_319 gX7_seeks (hg.1 _ _ rfl) rfl rfl rfl (m_seeks (d := d) hg hK hT hu) (by omega) ?_
  rintro _ _ J1 _ L1 ⟨rfl, rfl, rfl, hL1, hS1, hX1⟩
  have hsv := (srch_sv (dd := dd) (tv := tvx tx u) n 0 c none (by omega) SX.rf rfl (fun a ha => absurd ha (by omega)) (fun z zhz => by cases zhz)) z hz1
  obtain ⟨q, -, hq2, -, hq4⟩ := hsv
  rw [hz1] at hS1
  refine xv_iconst (v := nI 0) (q := 5) rfl dX7_stands_4 rfl ?_
  refine xv_istore_n (q := 6) rfl dX7_stands_5 rfl rfl ?_
  refine xv_iconst (v := nI 0) (q := 7) rfl dX7_stands_6 rfl ?_
  refine xv_istore_n (q := 8) rfl dX7_stands_7 rfl rfl ?_
  exact m_stands_loop (d := d) (L := L) (tv := tvx tx u) hg hK hL1 (n + 1) 0 J1 (by omega) (by omega) hX1.1 (fun w a hw ha => (hX1.2.1.1 w a hw ha).trans (by rw [show stn c 0 (spl c n dd (tvx tx u)) w a = c w a from if_neg (by omega)]; rfl)) (fun a ha => by rw [hz4]; exact hS1.2.2.2 a ha) (fun a ha => by rw [hz4, hq2]; exact hq4 a ha)
end MSTAND

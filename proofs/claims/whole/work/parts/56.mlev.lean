/-! the model: the levels of the reader -/
section MLEV
variable {E : XE} {d : Nat} {sh : XSh} {I : XI} {R : XRf} {L : XL} {fr n : Nat} {tp : Nat → Nat} {nm : Nat → Int32} {p op : Nat}
theorem prs0_3 {f : Nat} {sg : List Int32} {v : PV} {r : PR} (h : prs tp n f 0 3 op p sg v = some r) : ∃ g, f = g + 1 ∧ prs tp n g 4 0 op p [] v = some r := by
  cases f with
  | zero => cases h
  | succ g => exact ⟨g, rfl, h⟩
theorem prs0_1 {f : Nat} {sg : List Int32} {v : PV} {r : PR} (h : prs tp n f 0 1 op p sg v = some r) : ∃ g, f = g + 1 ∧ prs tp n g 3 0 op p [] v = some r := by
  cases f with
  | zero => cases h
  | succ g => exact ⟨g, rfl, h⟩
theorem prs0_2 {f : Nat} {sg : List Int32} {v : PV} {r : PR} (h : prs tp n f 0 2 op p sg v = some r) : ∃ g, f = g + 1 ∧ prs tp n g 1 3 op p [] v = some r := by
  cases f with
  | zero => cases h
  | succ g => exact ⟨g, rfl, h⟩
theorem prs0_0 {f : Nat} {sg : List Int32} {v : PV} {r : PR} (h : prs tp n f 0 0 op p sg v = some r) : ∃ g, f = g + 1 ∧ prs tp n g 1 1 op p [] v = some r := by
  cases f with
  | zero => cases h
  | succ g => exact ⟨g, rfl, h⟩
theorem tks_of {c : Nat} (h : tok tp n p = c) (hc : 40 ≤ c) : tkm tp n p = 3 ∧ tp (sta tp n p) = c := by
  have := tks_iff (tp := tp) (n := n) (p := p) hc
  rw [decide_eq_true h] at this
  unfold tks at this
  rw [Bool.and_eq_true_iff, decide_eq_true_iff, decide_eq_true_iff] at this
  exact this
theorem term_b (hg : XG sh R) {x : Int32} {dd q : Nat} {Q : XQ} (hB : BD I q) (hQ : Q (some (.int x)) sh I R L) : XV E mX7_term (dd + 1) 0 0 Q 0 0 5 [some (.ref 61), some (.int x)] [] sh I R L := by
  refine xv_aload_n (q := 6) rfl dX7_term_5 rfl rfl ?_
  refine xv_bipush (v := nI 42) (q := 8) rfl dX7_term_6 rfl ?_
  refine xv_cV1 (z := mX7_isSign) (q := 11) rfl dX7_term_8 l_X7_207 gX7_isSign (hg.1 _ _ rfl) rfl rfl rfl (m_isSign (d := dd) hg) (by omega) ?_
  rw [isS_b hB]
  refine xv_if_eq (q := 14) (t := 28) rfl rfl dX7_term_11 (fun h11 => ?_) (fun h11 => ?_)
  · refine xv_iload_n (q := 29) rfl dX7_term_28 rfl rfl ?_
    refine xv_iret dX7_term_29 rfl ?_
    exact hQ
  · exact absurd rfl h11
theorem added_b (hg : XG sh R) {x : Int32} {l2 l3 : Option Value} {dd q : Nat} {Q : XQ} (hB : BD I q) (hQ : Q (some (.int x)) sh I R L) : XV E mX7_added (dd + 1) 0 0 Q 0 0 5 [some (.ref 61), some (.int x), l2, l3] [] sh I R L := by
  refine xv_aload_n (q := 6) rfl dX7_added_5 rfl rfl ?_
  refine xv_bipush (v := nI 43) (q := 8) rfl dX7_added_6 rfl ?_
  refine xv_cV1 (z := mX7_isSign) (q := 11) rfl dX7_added_8 l_X7_207 gX7_isSign (hg.1 _ _ rfl) rfl rfl rfl (m_isSign (d := dd) hg) (by omega) ?_
  rw [isS_b hB]
  refine xv_if_ne (q := 14) (t := 23) rfl rfl dX7_added_11 (fun h11 => ?_) (fun h11 => ?_)
  · exact absurd rfl h11
  · refine xv_aload_n (q := 15) rfl dX7_added_14 rfl rfl ?_
    refine xv_bipush (v := nI 45) (q := 17) rfl dX7_added_15 rfl ?_
    refine xv_cV1 (z := mX7_isSign) (q := 20) rfl dX7_added_17 l_X7_207 gX7_isSign (hg.1 _ _ rfl) rfl rfl rfl (m_isSign (d := dd) hg) (by omega) ?_
    rw [isS_b hB]
    refine xv_if_eq (q := 23) (t := 66) rfl rfl dX7_added_20 (fun h20 => ?_) (fun h20 => ?_)
    · refine xv_iload_n (q := 67) rfl dX7_added_66 rfl rfl ?_
      refine xv_iret dX7_added_67 rfl ?_
      exact hQ
    · exact absurd rfl h20
theorem not_b (hg : XG sh R) {x : Int32} {l2 l3 : Option Value} {dd q : Nat} {Q : XQ} (hB : BD I q) (hQ : Q (some (.int x)) sh I R L) : XV E mX7_not (dd + 1) 0 0 Q 0 0 57 [some (.ref 61), some (.int x), l2, l3] [] sh I R L := by
  refine xv_aload_n (q := 58) rfl dX7_not_57 rfl rfl ?_
  refine xv_bipush (v := nI 60) (q := 60) rfl dX7_not_58 rfl ?_
  refine xv_cV1 (z := mX7_isSign) (q := 63) rfl dX7_not_60 l_X7_207 gX7_isSign (hg.1 _ _ rfl) rfl rfl rfl (m_isSign (d := dd) hg) (by omega) ?_
  rw [isS_b hB]
  refine xv_if_ne (q := 66) (t := 77) rfl rfl dX7_not_63 (fun h63 => ?_) (fun h63 => ?_)
  · exact absurd rfl h63
  · refine xv_aload_n (q := 67) rfl dX7_not_66 rfl rfl ?_
    refine xv_bipush (v := nI 61) (q := 69) rfl dX7_not_67 rfl ?_
    refine xv_cV1 (z := mX7_isSign) (q := 72) rfl dX7_not_69 l_X7_207 gX7_isSign (hg.1 _ _ rfl) rfl rfl rfl (m_isSign (d := dd) hg) (by omega) ?_
    rw [isS_b hB]
    refine xv_if_ne (q := 75) (t := 77) rfl rfl dX7_not_72 (fun h72 => ?_) (fun h72 => ?_)
    · exact absurd rfl h72
    · refine xv_iload_n (q := 76) rfl dX7_not_75 rfl rfl ?_
      refine xv_iret dX7_not_76 rfl ?_
      exact hQ
theorem both_b (hg : XG sh R) {x : Int32} {l2 : Option Value} {dd q : Nat} {Q : XQ} (hB : BD I q) (hQ : Q (some (.int x)) sh I R L) : XV E mX7_both (dd + 1) 0 0 Q 0 0 5 [some (.ref 61), some (.int x), l2] [] sh I R L := by
  refine xv_aload_n (q := 6) rfl dX7_both_5 rfl rfl ?_
  refine xv_bipush (v := nI 97) (q := 8) rfl dX7_both_6 rfl ?_
  refine xv_bipush (v := nI 110) (q := 10) rfl dX7_both_8 rfl ?_
  refine xv_bipush (v := nI 100) (q := 12) rfl dX7_both_10 rfl ?_
  refine xv_iconst (v := nI 0) (q := 13) rfl dX7_both_12 rfl ?_
  refine xv_iconst (v := nI 0) (q := 14) rfl dX7_both_13 rfl ?_
  refine xv_iconst (v := nI 0) (q := 15) rfl dX7_both_14 rfl ?_
  refine xv_iconst (v := nI 0) (q := 16) rfl dX7_both_15 rfl ?_
  refine xv_iconst (v := nI 0) (q := 17) rfl dX7_both_16 rfl ?_
  refine xv_cV8 (z := mX7_isWord) (q := 20) rfl dX7_both_17 l_X7_185 gX7_isWord (hg.1 _ _ rfl) rfl rfl rfl (m_isW_b (d := dd) hg hB) (by omega) ?_
  refine xv_if_eq (q := 23) (t := 49) rfl rfl dX7_both_20 (fun h20 => ?_) (fun h20 => ?_)
  · refine xv_iload_n (q := 50) rfl dX7_both_49 rfl rfl ?_
    refine xv_iret dX7_both_50 rfl ?_
    exact hQ
  · exact absurd rfl h20
theorem either_b (hg : XG sh R) {x : Int32} {l2 : Option Value} {dd q : Nat} {Q : XQ} (hB : BD I q) (hQ : Q (some (.int x)) sh I R L) : XV E mX7_either (dd + 1) 0 0 Q 0 0 5 [some (.ref 61), some (.int x), l2] [] sh I R L := by
  refine xv_aload_n (q := 6) rfl dX7_either_5 rfl rfl ?_
  refine xv_bipush (v := nI 111) (q := 8) rfl dX7_either_6 rfl ?_
  refine xv_bipush (v := nI 114) (q := 10) rfl dX7_either_8 rfl ?_
  refine xv_iconst (v := nI 0) (q := 11) rfl dX7_either_10 rfl ?_
  refine xv_iconst (v := nI 0) (q := 12) rfl dX7_either_11 rfl ?_
  refine xv_iconst (v := nI 0) (q := 13) rfl dX7_either_12 rfl ?_
  refine xv_iconst (v := nI 0) (q := 14) rfl dX7_either_13 rfl ?_
  refine xv_iconst (v := nI 0) (q := 15) rfl dX7_either_14 rfl ?_
  refine xv_iconst (v := nI 0) (q := 16) rfl dX7_either_15 rfl ?_
  refine xv_cV8 (z := mX7_isWord) (q := 19) rfl dX7_either_16 l_X7_185 gX7_isWord (hg.1 _ _ rfl) rfl rfl rfl (m_isW_b (d := dd) hg hB) (by omega) ?_
  refine xv_if_eq (q := 22) (t := 48) rfl rfl dX7_either_19 (fun h19 => ?_) (fun h19 => ?_)
  · refine xv_iload_n (q := 49) rfl dX7_either_48 rfl rfl ?_
    refine xv_iret dX7_either_49 rfl ?_
    exact hQ
  · exact absurd rfl h19
theorem lvo_3 {t : Nat} (h : ¬ t = 42) : ¬ lvo t = 3 := by
  unfold lvo
  repeat' split
  all_goals omega
theorem lvo_2 {t : Nat} (h : ¬ t = 43) (zh2 : ¬ t = 45) : ¬ lvo t = 2 := by
  unfold lvo
  repeat' split
  all_goals omega
theorem lvo_1 {t : Nat} (h : ¬ t = 8) : ¬ lvo t = 1 := by
  unfold lvo
  repeat' split
  all_goals omega
theorem lvo_0 {t : Nat} (h : ¬ t = 7) : ¬ lvo t = 0 := by
  unfold lvo
  repeat' split
  all_goals omega
theorem term_loop (hg : XG sh R) (hop : op ≤ 5) : ∀ (f : Nat), (∀ g, g < f → PSM E d sh R fr tp n nm g) → ∀ (p : Nat) (J : XI) (K : XL) (sg : List Int32) (v : PV) (r : PR) , MG J K fr tp n nm p op → prs tp n f 2 3 op p sg v = some r → FPa I J → FL L K → XV E mX7_term (dA d op + 1) 0 0 (QPm fr tp n nm op r sh I R L) 0 0 5 [some (.ref 61), some (.int (v nm))] [] sh J R K := by
  intro f
  induction f with
  | zero => intro _ p J K sg v r  _ h; cases h
  | succ f ih =>
    intro hIH p J K sg v r  hM h hF hL
    rw [prs_2] at h
    have hd6 := dA_6 (d := d) (op := op)
    obtain ⟨gT, gp, gR, gM29, g28, gn⟩ := id hM
    refine xv_aload_n (q := 6) rfl dX7_term_5 rfl rfl ?_
    refine xv_bipush (v := nI 42) (q := 8) rfl dX7_term_6 rfl ?_
    refine xv_cV1 (z := mX7_isSign) (q := 11) rfl dX7_term_8 l_X7_207 gX7_isSign (hg.1 _ _ rfl) rfl rfl rfl (m_isSign (d := d) hg) (by omega) ?_
    rw [isS_g hM (by decide) (by decide)]
    refine xv_if_eq (q := 14) (t := 28) rfl rfl dX7_term_11 (fun h11 => ?_) (fun h11 => ?_)
    · have h11 : ¬ tok tp n p = 42 := of_decide_eq_false (bIz h11)
      rw [if_pos (show ¬ lvo (tok tp n p) = 3 from lvo_3 h11)] at h
      obtain rfl := Option.some.inj h
      refine xv_iload_n (q := 29) rfl dX7_term_28 rfl rfl ?_
      refine xv_iret dX7_term_29 rfl ?_
      exact ⟨_, rfl, rfl, rfl, hF, hL, fun _ => ⟨rfl, hM⟩, (fun z => by cases z)⟩
    · have h11 : tok tp n p = 42 := of_decide_eq_true (bIn h11)
      rw [if_neg (show ¬ ¬ lvo (tok tp n p) = 3 by rw [h11]; decide)] at h
      obtain ⟨r1, zh1, h⟩ := bnd h
      obtain ⟨g, rfl, zh1⟩ := prs0_3 zh1
      refine xv_aload_n (q := 15) rfl dX7_term_14 rfl rfl ?_
      refine xv_rV0 (z := mX7_next) (q := 18) rfl dX7_term_15 l_X7_182 gX7_next (hg.1 _ _ rfl) rfl rfl rfl (m_adv (d := d) hg hM (tok_m h11 (by decide))) (by omega) ?_
      rintro _ _ J1 _ L1 ⟨rfl, rfl, rfl, hF1, hL1, hM1⟩
      refine xv_iload_n (q := 19) rfl dX7_term_18 rfl rfl ?_
      refine xv_aload_n (q := 20) rfl dX7_term_19 rfl rfl ?_
      refine xv_rV0 (z := mX7_atom) (q := 23) rfl dX7_term_20 l_X7_214 gX7_atom (hg.1 _ _ rfl) rfl rfl rfl ((hIH g (by omega) op _ J1 L1 [] v r1 hop hM1).1 zh1) (by omega) ?_
      rintro _ _ J2 _ L2 ⟨x, rfl, rfl, rfl, hF2, hL2, hb3, hb4⟩
      refine xv_imul (q := 24) rfl dX7_term_23 ?_
      refine xv_istore_n (q := 25) rfl dX7_term_24 rfl rfl ?_
      refine xv_goto (t := 5) rfl dX7_term_25 ?_
      by_cases hr : r1.1 = false
      · rw [if_pos hr] at h
        obtain rfl := Option.some.inj h
        exact term_b hg (hb4 hr) ⟨_, rfl, rfl, rfl, (hF.trans hF1).trans hF2, (hL.trans hL1).trans hL2, (fun z => by rw [hr] at z; cases z), hb4⟩
      · rw [if_neg hr] at h
        obtain ⟨rfl, hM2⟩ := hb3 (bT hr)
        have zhz := ih (fun g' hg' => hIH g' (by omega)) _ J2 L2 _ _ r  hM2 h ((hF.trans hF1).trans hF2) ((hL.trans hL1).trans hL2)
        have hval : wop nm (cdo (tok tp n p)) (v nm) (r1.2.2.2 nm) = v nm * r1.2.2.2 nm := by rw [h11]; exact wop_m13 _ _ _
        rw [hval] at zhz
        exact zhz 
theorem added_loop (hg : XG sh R) (hop : op ≤ 5) : ∀ (f : Nat), (∀ g, g < f → PSM E d sh R fr tp n nm g) → ∀ (p : Nat) (J : XI) (K : XL) (sg : List Int32) (v : PV) (r : PR) (l2 : Option Value) (l3 : Option Value), MG J K fr tp n nm p op → prs tp n f 2 2 op p sg v = some r → FPa I J → FL L K → XV E mX7_added (dA d op + 2) 0 0 (QPm fr tp n nm op r sh I R L) 0 0 5 [some (.ref 61), some (.int (v nm)), l2, l3] [] sh J R K := by
  intro f
  induction f with
  | zero => intro _ p J K sg v r _ _ _ h; cases h
  | succ f ih =>
    intro hIH p J K sg v r l2 l3 hM h hF hL
    rw [prs_2] at h
    have hd6 := dA_6 (d := d) (op := op)
    obtain ⟨gT, gp, gR, gM29, g28, gn⟩ := id hM
    refine xv_aload_n (q := 6) rfl dX7_added_5 rfl rfl ?_
    refine xv_bipush (v := nI 43) (q := 8) rfl dX7_added_6 rfl ?_
    refine xv_cV1 (z := mX7_isSign) (q := 11) rfl dX7_added_8 l_X7_207 gX7_isSign (hg.1 _ _ rfl) rfl rfl rfl (m_isSign (d := d) hg) (by omega) ?_
    rw [isS_g hM (by decide) (by decide)]
    refine xv_if_ne (q := 14) (t := 23) rfl rfl dX7_added_11 (fun h11 => ?_) (fun h11 => ?_)
    · have h11 : tok tp n p = 43 := of_decide_eq_true (bIn h11)
      rw [if_neg (show ¬ ¬ lvo (tok tp n p) = 2 by rw [h11]; decide)] at h
      obtain ⟨r1, zh1, h⟩ := bnd h
      obtain ⟨g, rfl, zh1⟩ := prs0_2 zh1
      have hk := tks_of h11 (by decide)
      refine xv_aload_n (q := 24) rfl dX7_added_23 rfl rfl ?_
      refine xv_getl (q := 27) rfl dX7_added_24 f_X7_160 (hg.1 _ _ rfl) ?_
      rw [gR.2.2.2.2 hk.1, hk.2]
      refine xv_ldc2 (q := 30) rfl dX7_added_27 k_X7_227 ?_
      refine xv_lcmp (q := 31) rfl dX7_added_30 ?_
      refine xv_if_ne (q := 34) (t := 38) rfl rfl dX7_added_31 (fun h31 => ?_) (fun h31 => ?_)
      · exact absurd ((lg_cmp_eq _ _).mpr rfl) h31
      · refine xv_iconst (v := nI 1) (q := 35) rfl dX7_added_34 rfl ?_
        refine xv_goto (t := 39) rfl dX7_added_35 ?_
        refine xv_istore_n (q := 40) rfl dX7_added_39 rfl rfl ?_
        refine xv_aload_n (q := 41) rfl dX7_added_40 rfl rfl ?_
        refine xv_rV0 (z := mX7_next) (q := 44) rfl dX7_added_41 l_X7_182 gX7_next (hg.1 _ _ rfl) rfl rfl rfl (m_adv (d := d) hg hM (tok_m h11 (by decide))) (by omega) ?_
        rintro _ _ J1 _ L1 ⟨rfl, rfl, rfl, hF1, hL1, hM1⟩
        refine xv_aload_n (q := 45) rfl dX7_added_44 rfl rfl ?_
        refine xv_rV0 (z := mX7_term) (q := 48) rfl dX7_added_45 l_X7_224 gX7_term (hg.1 _ _ rfl) rfl rfl rfl ((hIH g (by omega) op _ J1 L1 [] v r1 hop hM1).2.2.1 zh1) (by omega) ?_
        rintro _ _ J2 _ L2 ⟨x, rfl, rfl, rfl, hF2, hL2, hb3, hb4⟩
        refine xv_istore_n (q := 49) rfl dX7_added_48 rfl rfl ?_
        refine xv_iload_n (q := 50) rfl dX7_added_49 rfl rfl ?_
        refine xv_if_eq (q := 53) (t := 59) rfl rfl dX7_added_50 (fun h50 => ?_) (fun h50 => ?_)
        · exact absurd h50 (by decide)
        · refine xv_iload_n (q := 54) rfl dX7_added_53 rfl rfl ?_
          refine xv_iload_n (q := 55) rfl dX7_added_54 rfl rfl ?_
          refine xv_iadd (q := 56) rfl dX7_added_55 ?_
          refine xv_goto (t := 62) rfl dX7_added_56 ?_
          refine xv_istore_n (q := 63) rfl dX7_added_62 rfl rfl ?_
          refine xv_goto (t := 5) rfl dX7_added_63 ?_
          by_cases hr : r1.1 = false
          · rw [if_pos hr] at h
            obtain rfl := Option.some.inj h
            exact added_b hg (hb4 hr) ⟨_, rfl, rfl, rfl, (hF.trans hF1).trans hF2, (hL.trans hL1).trans hL2, (fun z => by rw [hr] at z; cases z), hb4⟩
          · rw [if_neg hr] at h
            obtain ⟨rfl, hM2⟩ := hb3 (bT hr)
            have zhz := fun zm0 zm1 => ih (fun g' hg' => hIH g' (by omega)) _ J2 L2 _ _ r zm0 zm1 hM2 h ((hF.trans hF1).trans hF2) ((hL.trans hL1).trans hL2)
            have hval : wop nm (cdo (tok tp n p)) (v nm) (r1.2.2.2 nm) = v nm + r1.2.2.2 nm := by rw [h11]; exact wop_m11 _ _ _
            rw [hval] at zhz
            exact zhz _ _
    · have h11 : ¬ tok tp n p = 43 := of_decide_eq_false (bIz h11)
      refine xv_aload_n (q := 15) rfl dX7_added_14 rfl rfl ?_
      refine xv_bipush (v := nI 45) (q := 17) rfl dX7_added_15 rfl ?_
      refine xv_cV1 (z := mX7_isSign) (q := 20) rfl dX7_added_17 l_X7_207 gX7_isSign (hg.1 _ _ rfl) rfl rfl rfl (m_isSign (d := d) hg) (by omega) ?_
      rw [isS_g hM (by decide) (by decide)]
      refine xv_if_eq (q := 23) (t := 66) rfl rfl dX7_added_20 (fun h20 => ?_) (fun h20 => ?_)
      · have h20 : ¬ tok tp n p = 45 := of_decide_eq_false (bIz h20)
        rw [if_pos (show ¬ lvo (tok tp n p) = 2 from lvo_2 h11 h20)] at h
        obtain rfl := Option.some.inj h
        refine xv_iload_n (q := 67) rfl dX7_added_66 rfl rfl ?_
        refine xv_iret dX7_added_67 rfl ?_
        exact ⟨_, rfl, rfl, rfl, hF, hL, fun _ => ⟨rfl, hM⟩, (fun z => by cases z)⟩
      · have h20 : tok tp n p = 45 := of_decide_eq_true (bIn h20)
        rw [if_neg (show ¬ ¬ lvo (tok tp n p) = 2 by rw [h20]; decide)] at h
        obtain ⟨r1, zh1, h⟩ := bnd h
        obtain ⟨g, rfl, zh1⟩ := prs0_2 zh1
        have hk := tks_of h20 (by decide)
        refine xv_aload_n (q := 24) rfl dX7_added_23 rfl rfl ?_
        refine xv_getl (q := 27) rfl dX7_added_24 f_X7_160 (hg.1 _ _ rfl) ?_
        rw [gR.2.2.2.2 hk.1, hk.2]
        refine xv_ldc2 (q := 30) rfl dX7_added_27 k_X7_227 ?_
        refine xv_lcmp (q := 31) rfl dX7_added_30 ?_
        refine xv_if_ne (q := 34) (t := 38) rfl rfl dX7_added_31 (fun h31 => ?_) (fun h31 => ?_)
        · refine xv_iconst (v := nI 0) (q := 39) rfl dX7_added_38 rfl ?_
          refine xv_istore_n (q := 40) rfl dX7_added_39 rfl rfl ?_
          refine xv_aload_n (q := 41) rfl dX7_added_40 rfl rfl ?_
          refine xv_rV0 (z := mX7_next) (q := 44) rfl dX7_added_41 l_X7_182 gX7_next (hg.1 _ _ rfl) rfl rfl rfl (m_adv (d := d) hg hM (tok_m h20 (by decide))) (by omega) ?_
          rintro _ _ J1 _ L1 ⟨rfl, rfl, rfl, hF1, hL1, hM1⟩
          refine xv_aload_n (q := 45) rfl dX7_added_44 rfl rfl ?_
          refine xv_rV0 (z := mX7_term) (q := 48) rfl dX7_added_45 l_X7_224 gX7_term (hg.1 _ _ rfl) rfl rfl rfl ((hIH g (by omega) op _ J1 L1 [] v r1 hop hM1).2.2.1 zh1) (by omega) ?_
          rintro _ _ J2 _ L2 ⟨x, rfl, rfl, rfl, hF2, hL2, hb3, hb4⟩
          refine xv_istore_n (q := 49) rfl dX7_added_48 rfl rfl ?_
          refine xv_iload_n (q := 50) rfl dX7_added_49 rfl rfl ?_
          refine xv_if_eq (q := 53) (t := 59) rfl rfl dX7_added_50 (fun h50 => ?_) (fun h50 => ?_)
          · refine xv_iload_n (q := 60) rfl dX7_added_59 rfl rfl ?_
            refine xv_iload_n (q := 61) rfl dX7_added_60 rfl rfl ?_
            refine xv_isub (q := 62) rfl dX7_added_61 ?_
            refine xv_istore_n (q := 63) rfl dX7_added_62 rfl rfl ?_
            refine xv_goto (t := 5) rfl dX7_added_63 ?_
            by_cases hr : r1.1 = false
            · rw [if_pos hr] at h
              obtain rfl := Option.some.inj h
              exact added_b hg (hb4 hr) ⟨_, rfl, rfl, rfl, (hF.trans hF1).trans hF2, (hL.trans hL1).trans hL2, (fun z => by rw [hr] at z; cases z), hb4⟩
            · rw [if_neg hr] at h
              obtain ⟨rfl, hM2⟩ := hb3 (bT hr)
              have zhz := fun zm0 zm1 => ih (fun g' hg' => hIH g' (by omega)) _ J2 L2 _ _ r zm0 zm1 hM2 h ((hF.trans hF1).trans hF2) ((hL.trans hL1).trans hL2)
              have hval : wop nm (cdo (tok tp n p)) (v nm) (r1.2.2.2 nm) = v nm - r1.2.2.2 nm := by rw [h20]; exact wop_m12 _ _ _
              rw [hval] at zhz
              exact zhz _ _
          · exact absurd rfl h50
        · exact absurd ((lg_cmp_eq _ _).mp h31) (by decide)
theorem both_loop (hg : XG sh R) (hop : op ≤ 5) : ∀ (f : Nat), (∀ g, g < f → PSM E d sh R fr tp n nm g) → ∀ (p : Nat) (J : XI) (K : XL) (sg : List Int32) (v : PV) (r : PR) (l2 : Option Value), MG J K fr tp n nm p op → prs tp n f 2 1 op p sg v = some r → FPa I J → FL L K → XV E mX7_both (dA d op + 4) 0 0 (QPm fr tp n nm op r sh I R L) 0 0 5 [some (.ref 61), some (.int (v nm)), l2] [] sh J R K := by
  intro f
  induction f with
  | zero => intro _ p J K sg v r _ _ h; cases h
  | succ f ih =>
    intro hIH p J K sg v r l2 hM h hF hL
    rw [prs_2] at h
    have hd6 := dA_6 (d := d) (op := op)
    obtain ⟨gT, gp, gR, gM29, g28, gn⟩ := id hM
    refine xv_aload_n (q := 6) rfl dX7_both_5 rfl rfl ?_
    refine xv_bipush (v := nI 97) (q := 8) rfl dX7_both_6 rfl ?_
    refine xv_bipush (v := nI 110) (q := 10) rfl dX7_both_8 rfl ?_
    refine xv_bipush (v := nI 100) (q := 12) rfl dX7_both_10 rfl ?_
    refine xv_iconst (v := nI 0) (q := 13) rfl dX7_both_12 rfl ?_
    refine xv_iconst (v := nI 0) (q := 14) rfl dX7_both_13 rfl ?_
    refine xv_iconst (v := nI 0) (q := 15) rfl dX7_both_14 rfl ?_
    refine xv_iconst (v := nI 0) (q := 16) rfl dX7_both_15 rfl ?_
    refine xv_iconst (v := nI 0) (q := 17) rfl dX7_both_16 rfl ?_
    refine xv_cV8 (z := mX7_isWord) (q := 20) rfl dX7_both_17 l_X7_185 gX7_isWord (hg.1 _ _ rfl) rfl rfl rfl (m_isW (d := d) (w := 10) hg hM (by decide)) (by omega) ?_
    rw [tkw_iff (by decide) (by decide)]
    refine xv_if_eq (q := 23) (t := 49) rfl rfl dX7_both_20 (fun h20 => ?_) (fun h20 => ?_)
    · have h20 : ¬ tok tp n p = 8 := of_decide_eq_false (bIz h20)
      rw [if_pos (show ¬ lvo (tok tp n p) = 1 from lvo_1 h20)] at h
      obtain rfl := Option.some.inj h
      refine xv_iload_n (q := 50) rfl dX7_both_49 rfl rfl ?_
      refine xv_iret dX7_both_50 rfl ?_
      exact ⟨_, rfl, rfl, rfl, hF, hL, fun _ => ⟨rfl, hM⟩, (fun z => by cases z)⟩
    · have h20 : tok tp n p = 8 := of_decide_eq_true (bIn h20)
      rw [if_neg (show ¬ ¬ lvo (tok tp n p) = 1 by rw [h20]; decide)] at h
      obtain ⟨r1, zh1, h⟩ := bnd h
      obtain ⟨g, rfl, zh1⟩ := prs0_1 zh1
      refine xv_aload_n (q := 24) rfl dX7_both_23 rfl rfl ?_
      refine xv_rV0 (z := mX7_next) (q := 27) rfl dX7_both_24 l_X7_182 gX7_next (hg.1 _ _ rfl) rfl rfl rfl (m_adv (d := d) hg hM (tok_m h20 (by decide))) (by omega) ?_
      rintro _ _ J1 _ L1 ⟨rfl, rfl, rfl, hF1, hL1, hM1⟩
      refine xv_aload_n (q := 28) rfl dX7_both_27 rfl rfl ?_
      refine xv_rV0 (z := mX7_not) (q := 31) rfl dX7_both_28 l_X7_229 gX7_not (hg.1 _ _ rfl) rfl rfl rfl ((hIH g (by omega) op _ J1 L1 [] v r1 hop hM1).2.1 zh1) (by omega) ?_
      rintro _ _ J2 _ L2 ⟨x, rfl, rfl, rfl, hF2, hL2, hb3, hb4⟩
      refine xv_istore_n (q := 32) rfl dX7_both_31 rfl rfl ?_
      refine xv_iload_n (q := 33) rfl dX7_both_32 rfl rfl ?_
      refine xv_if_eq (q := 36) (t := 44) rfl rfl dX7_both_33 (fun h33 => ?_) (fun h33 => ?_)
      · refine xv_iconst (v := nI 0) (q := 45) rfl dX7_both_44 rfl ?_
        refine xv_istore_n (q := 46) rfl dX7_both_45 rfl rfl ?_
        refine xv_goto (t := 5) rfl dX7_both_46 ?_
        by_cases hr : r1.1 = false
        · rw [if_pos hr] at h
          obtain rfl := Option.some.inj h
          exact both_b hg (hb4 hr) ⟨_, rfl, rfl, rfl, (hF.trans hF1).trans hF2, (hL.trans hL1).trans hL2, (fun z => by rw [hr] at z; cases z), hb4⟩
        · rw [if_neg hr] at h
          obtain ⟨rfl, hM2⟩ := hb3 (bT hr)
          have zhz := fun zm0 => ih (fun g' hg' => hIH g' (by omega)) _ J2 L2 _ _ r zm0 hM2 h ((hF.trans hF1).trans hF2) ((hL.trans hL1).trans hL2)
          have hval : wop nm (cdo (tok tp n p)) (v nm) (r1.2.2.2 nm) = nI 0 := by rw [h20]; exact (wop_m8 _ _ _).trans (by rw [decide_eq_true h33]; rfl)
          rw [hval] at zhz
          exact zhz _
      · refine xv_iload_n (q := 37) rfl dX7_both_36 rfl rfl ?_
        refine xv_if_eq (q := 40) (t := 44) rfl rfl dX7_both_37 (fun h37 => ?_) (fun h37 => ?_)
        · refine xv_iconst (v := nI 0) (q := 45) rfl dX7_both_44 rfl ?_
          refine xv_istore_n (q := 46) rfl dX7_both_45 rfl rfl ?_
          refine xv_goto (t := 5) rfl dX7_both_46 ?_
          by_cases hr : r1.1 = false
          · rw [if_pos hr] at h
            obtain rfl := Option.some.inj h
            exact both_b hg (hb4 hr) ⟨_, rfl, rfl, rfl, (hF.trans hF1).trans hF2, (hL.trans hL1).trans hL2, (fun z => by rw [hr] at z; cases z), hb4⟩
          · rw [if_neg hr] at h
            obtain ⟨rfl, hM2⟩ := hb3 (bT hr)
            have zhz := fun zm0 => ih (fun g' hg' => hIH g' (by omega)) _ J2 L2 _ _ r zm0 hM2 h ((hF.trans hF1).trans hF2) ((hL.trans hL1).trans hL2)
            have hval : wop nm (cdo (tok tp n p)) (v nm) (r1.2.2.2 nm) = nI 0 := by rw [h20]; exact (wop_m8 _ _ _).trans (by rw [decide_eq_true h37, Bool.not_true, Bool.and_false]; rfl)
            rw [hval] at zhz
            exact zhz _
        · refine xv_iconst (v := nI 1) (q := 41) rfl dX7_both_40 rfl ?_
          refine xv_goto (t := 45) rfl dX7_both_41 ?_
          refine xv_istore_n (q := 46) rfl dX7_both_45 rfl rfl ?_
          refine xv_goto (t := 5) rfl dX7_both_46 ?_
          by_cases hr : r1.1 = false
          · rw [if_pos hr] at h
            obtain rfl := Option.some.inj h
            exact both_b hg (hb4 hr) ⟨_, rfl, rfl, rfl, (hF.trans hF1).trans hF2, (hL.trans hL1).trans hL2, (fun z => by rw [hr] at z; cases z), hb4⟩
          · rw [if_neg hr] at h
            obtain ⟨rfl, hM2⟩ := hb3 (bT hr)
            have zhz := fun zm0 => ih (fun g' hg' => hIH g' (by omega)) _ J2 L2 _ _ r zm0 hM2 h ((hF.trans hF1).trans hF2) ((hL.trans hL1).trans hL2)
            have hval : wop nm (cdo (tok tp n p)) (v nm) (r1.2.2.2 nm) = nI 1 := by rw [h20]; exact (wop_m8 _ _ _).trans (by rw [decide_eq_false h33, decide_eq_false h37]; rfl)
            rw [hval] at zhz
            exact zhz _
theorem either_loop (hg : XG sh R) (hop : op ≤ 5) : ∀ (f : Nat), (∀ g, g < f → PSM E d sh R fr tp n nm g) → ∀ (p : Nat) (J : XI) (K : XL) (sg : List Int32) (v : PV) (r : PR) (l2 : Option Value), MG J K fr tp n nm p op → prs tp n f 2 0 op p sg v = some r → FPa I J → FL L K → XV E mX7_either (dA d op + 5) 0 0 (QPm fr tp n nm op r sh I R L) 0 0 5 [some (.ref 61), some (.int (v nm)), l2] [] sh J R K := by
  intro f
  induction f with
  | zero => intro _ p J K sg v r _ _ h; cases h
  | succ f ih =>
    intro hIH p J K sg v r l2 hM h hF hL
    rw [prs_2] at h
    have hd6 := dA_6 (d := d) (op := op)
    obtain ⟨gT, gp, gR, gM29, g28, gn⟩ := id hM
    refine xv_aload_n (q := 6) rfl dX7_either_5 rfl rfl ?_
    refine xv_bipush (v := nI 111) (q := 8) rfl dX7_either_6 rfl ?_
    refine xv_bipush (v := nI 114) (q := 10) rfl dX7_either_8 rfl ?_
    refine xv_iconst (v := nI 0) (q := 11) rfl dX7_either_10 rfl ?_
    refine xv_iconst (v := nI 0) (q := 12) rfl dX7_either_11 rfl ?_
    refine xv_iconst (v := nI 0) (q := 13) rfl dX7_either_12 rfl ?_
    refine xv_iconst (v := nI 0) (q := 14) rfl dX7_either_13 rfl ?_
    refine xv_iconst (v := nI 0) (q := 15) rfl dX7_either_14 rfl ?_
    refine xv_iconst (v := nI 0) (q := 16) rfl dX7_either_15 rfl ?_
    refine xv_cV8 (z := mX7_isWord) (q := 19) rfl dX7_either_16 l_X7_185 gX7_isWord (hg.1 _ _ rfl) rfl rfl rfl (m_isW (d := d) (w := 9) hg hM (by decide)) (by omega) ?_
    rw [tkw_iff (by decide) (by decide)]
    refine xv_if_eq (q := 22) (t := 48) rfl rfl dX7_either_19 (fun h19 => ?_) (fun h19 => ?_)
    · have h19 : ¬ tok tp n p = 7 := of_decide_eq_false (bIz h19)
      rw [if_pos (show ¬ lvo (tok tp n p) = 0 from lvo_0 h19)] at h
      obtain rfl := Option.some.inj h
      refine xv_iload_n (q := 49) rfl dX7_either_48 rfl rfl ?_
      refine xv_iret dX7_either_49 rfl ?_
      exact ⟨_, rfl, rfl, rfl, hF, hL, fun _ => ⟨rfl, hM⟩, (fun z => by cases z)⟩
    · have h19 : tok tp n p = 7 := of_decide_eq_true (bIn h19)
      rw [if_neg (show ¬ ¬ lvo (tok tp n p) = 0 by rw [h19]; decide)] at h
      obtain ⟨r1, zh1, h⟩ := bnd h
      obtain ⟨g, rfl, zh1⟩ := prs0_0 zh1
      refine xv_aload_n (q := 23) rfl dX7_either_22 rfl rfl ?_
      refine xv_rV0 (z := mX7_next) (q := 26) rfl dX7_either_23 l_X7_182 gX7_next (hg.1 _ _ rfl) rfl rfl rfl (m_adv (d := d) hg hM (tok_m h19 (by decide))) (by omega) ?_
      rintro _ _ J1 _ L1 ⟨rfl, rfl, rfl, hF1, hL1, hM1⟩
      refine xv_aload_n (q := 27) rfl dX7_either_26 rfl rfl ?_
      refine xv_rV0 (z := mX7_both) (q := 30) rfl dX7_either_27 l_X7_237 gX7_both (hg.1 _ _ rfl) rfl rfl rfl ((hIH g (by omega) op _ J1 L1 [] v r1 hop hM1).2.2.2.2.1 zh1) (by omega) ?_
      rintro _ _ J2 _ L2 ⟨x, rfl, rfl, rfl, hF2, hL2, hb3, hb4⟩
      refine xv_istore_n (q := 31) rfl dX7_either_30 rfl rfl ?_
      refine xv_iload_n (q := 32) rfl dX7_either_31 rfl rfl ?_
      refine xv_if_ne (q := 35) (t := 39) rfl rfl dX7_either_32 (fun h32 => ?_) (fun h32 => ?_)
      · refine xv_iconst (v := nI 1) (q := 40) rfl dX7_either_39 rfl ?_
        refine xv_goto (t := 44) rfl dX7_either_40 ?_
        refine xv_istore_n (q := 45) rfl dX7_either_44 rfl rfl ?_
        refine xv_goto (t := 5) rfl dX7_either_45 ?_
        by_cases hr : r1.1 = false
        · rw [if_pos hr] at h
          obtain rfl := Option.some.inj h
          exact either_b hg (hb4 hr) ⟨_, rfl, rfl, rfl, (hF.trans hF1).trans hF2, (hL.trans hL1).trans hL2, (fun z => by rw [hr] at z; cases z), hb4⟩
        · rw [if_neg hr] at h
          obtain ⟨rfl, hM2⟩ := hb3 (bT hr)
          have zhz := fun zm0 => ih (fun g' hg' => hIH g' (by omega)) _ J2 L2 _ _ r zm0 hM2 h ((hF.trans hF1).trans hF2) ((hL.trans hL1).trans hL2)
          have hval : wop nm (cdo (tok tp n p)) (v nm) (r1.2.2.2 nm) = nI 1 := by rw [h19]; exact (wop_m7 _ _ _).trans (by rw [decide_eq_false h32]; rfl)
          rw [hval] at zhz
          exact zhz _
      · refine xv_iload_n (q := 36) rfl dX7_either_35 rfl rfl ?_
        refine xv_if_eq (q := 39) (t := 43) rfl rfl dX7_either_36 (fun h36 => ?_) (fun h36 => ?_)
        · refine xv_iconst (v := nI 0) (q := 44) rfl dX7_either_43 rfl ?_
          refine xv_istore_n (q := 45) rfl dX7_either_44 rfl rfl ?_
          refine xv_goto (t := 5) rfl dX7_either_45 ?_
          by_cases hr : r1.1 = false
          · rw [if_pos hr] at h
            obtain rfl := Option.some.inj h
            exact either_b hg (hb4 hr) ⟨_, rfl, rfl, rfl, (hF.trans hF1).trans hF2, (hL.trans hL1).trans hL2, (fun z => by rw [hr] at z; cases z), hb4⟩
          · rw [if_neg hr] at h
            obtain ⟨rfl, hM2⟩ := hb3 (bT hr)
            have zhz := fun zm0 => ih (fun g' hg' => hIH g' (by omega)) _ J2 L2 _ _ r zm0 hM2 h ((hF.trans hF1).trans hF2) ((hL.trans hL1).trans hL2)
            have hval : wop nm (cdo (tok tp n p)) (v nm) (r1.2.2.2 nm) = nI 0 := by rw [h19]; exact (wop_m7 _ _ _).trans (by rw [decide_eq_true h32, decide_eq_true h36]; rfl)
            rw [hval] at zhz
            exact zhz _
        · refine xv_iconst (v := nI 1) (q := 40) rfl dX7_either_39 rfl ?_
          refine xv_goto (t := 44) rfl dX7_either_40 ?_
          refine xv_istore_n (q := 45) rfl dX7_either_44 rfl rfl ?_
          refine xv_goto (t := 5) rfl dX7_either_45 ?_
          by_cases hr : r1.1 = false
          · rw [if_pos hr] at h
            obtain rfl := Option.some.inj h
            exact either_b hg (hb4 hr) ⟨_, rfl, rfl, rfl, (hF.trans hF1).trans hF2, (hL.trans hL1).trans hL2, (fun z => by rw [hr] at z; cases z), hb4⟩
          · rw [if_neg hr] at h
            obtain ⟨rfl, hM2⟩ := hb3 (bT hr)
            have zhz := fun zm0 => ih (fun g' hg' => hIH g' (by omega)) _ J2 L2 _ _ r zm0 hM2 h ((hF.trans hF1).trans hF2) ((hL.trans hL1).trans hL2)
            have hval : wop nm (cdo (tok tp n p)) (v nm) (r1.2.2.2 nm) = nI 1 := by rw [h19]; exact (wop_m7 _ _ _).trans (by rw [decide_eq_true h32, decide_eq_false h36]; rfl)
            rw [hval] at zhz
            exact zhz _
theorem m_term (hg : XG sh R) {f : Nat} (hIH : ∀ g, g < f → PSM E d sh R fr tp n nm g) (hop : op ≤ 5) (hM : MG I L fr tp n nm p op) {v : PV} {r : PR} (h : prs tp n f 1 3 op p [] v = some r) : XC E mX7_term (dA d op + 1) 0 0 [.ref 61] sh I R L (QPm fr tp n nm op r sh I R L) := by
  cases f with
  | zero => cases h
  | succ f =>
    rw [prs_1] at h
    have hd6 := dA_6 (d := d) (op := op)
    obtain ⟨r1, zh1, h⟩ := bnd h
    obtain ⟨g, rfl, zh1⟩ := prs0_3 zh1
    refine XC.of (by decide) rfl rfl ?_
    refine xv_aload_n (q := 1) rfl dX7_term_0 rfl rfl ?_
    refine xv_rV0 (z := mX7_atom) (q := 4) rfl dX7_term_1 l_X7_214 gX7_atom (hg.1 _ _ rfl) rfl rfl rfl ((hIH g (by omega) op _ I L [] v r1 hop hM).1 zh1) (by omega) ?_
    rintro _ _ J2 _ L2 ⟨x, rfl, rfl, rfl, hF2, hL2, hb3, hb4⟩
    refine xv_istore_n (q := 5) rfl dX7_term_4 rfl rfl ?_
    by_cases hr : r1.1 = false
    · rw [if_pos hr] at h
      obtain rfl := Option.some.inj h
      exact term_b hg (hb4 hr) ⟨_, rfl, rfl, rfl, hF2, hL2, (fun z => by rw [hr] at z; cases z), hb4⟩
    · rw [if_neg hr] at h
      obtain ⟨rfl, hM2⟩ := hb3 (bT hr)
      exact term_loop hg hop (g + 1) (fun g' hg' => hIH g' (by omega)) _ J2 L2 _ _ r  hM2 h hF2 hL2
theorem m_added (hg : XG sh R) {f : Nat} (hIH : ∀ g, g < f → PSM E d sh R fr tp n nm g) (hop : op ≤ 5) (hM : MG I L fr tp n nm p op) {v : PV} {r : PR} (h : prs tp n f 1 2 op p [] v = some r) : XC E mX7_added (dA d op + 2) 0 0 [.ref 61] sh I R L (QPm fr tp n nm op r sh I R L) := by
  cases f with
  | zero => cases h
  | succ f =>
    rw [prs_1] at h
    have hd6 := dA_6 (d := d) (op := op)
    obtain ⟨r1, zh1, h⟩ := bnd h
    obtain ⟨g, rfl, zh1⟩ := prs0_2 zh1
    refine XC.of (by decide) rfl rfl ?_
    refine xv_aload_n (q := 1) rfl dX7_added_0 rfl rfl ?_
    refine xv_rV0 (z := mX7_term) (q := 4) rfl dX7_added_1 l_X7_224 gX7_term (hg.1 _ _ rfl) rfl rfl rfl ((hIH g (by omega) op _ I L [] v r1 hop hM).2.2.1 zh1) (by omega) ?_
    rintro _ _ J2 _ L2 ⟨x, rfl, rfl, rfl, hF2, hL2, hb3, hb4⟩
    refine xv_istore_n (q := 5) rfl dX7_added_4 rfl rfl ?_
    by_cases hr : r1.1 = false
    · rw [if_pos hr] at h
      obtain rfl := Option.some.inj h
      exact added_b hg (hb4 hr) ⟨_, rfl, rfl, rfl, hF2, hL2, (fun z => by rw [hr] at z; cases z), hb4⟩
    · rw [if_neg hr] at h
      obtain ⟨rfl, hM2⟩ := hb3 (bT hr)
      exact added_loop hg hop (g + 1) (fun g' hg' => hIH g' (by omega)) _ J2 L2 _ _ r _ _ hM2 h hF2 hL2
theorem m_both (hg : XG sh R) {f : Nat} (hIH : ∀ g, g < f → PSM E d sh R fr tp n nm g) (hop : op ≤ 5) (hM : MG I L fr tp n nm p op) {v : PV} {r : PR} (h : prs tp n f 1 1 op p [] v = some r) : XC E mX7_both (dA d op + 4) 0 0 [.ref 61] sh I R L (QPm fr tp n nm op r sh I R L) := by
  cases f with
  | zero => cases h
  | succ f =>
    rw [prs_1] at h
    have hd6 := dA_6 (d := d) (op := op)
    obtain ⟨r1, zh1, h⟩ := bnd h
    obtain ⟨g, rfl, zh1⟩ := prs0_1 zh1
    refine XC.of (by decide) rfl rfl ?_
    refine xv_aload_n (q := 1) rfl dX7_both_0 rfl rfl ?_
    refine xv_rV0 (z := mX7_not) (q := 4) rfl dX7_both_1 l_X7_229 gX7_not (hg.1 _ _ rfl) rfl rfl rfl ((hIH g (by omega) op _ I L [] v r1 hop hM).2.1 zh1) (by omega) ?_
    rintro _ _ J2 _ L2 ⟨x, rfl, rfl, rfl, hF2, hL2, hb3, hb4⟩
    refine xv_istore_n (q := 5) rfl dX7_both_4 rfl rfl ?_
    by_cases hr : r1.1 = false
    · rw [if_pos hr] at h
      obtain rfl := Option.some.inj h
      exact both_b hg (hb4 hr) ⟨_, rfl, rfl, rfl, hF2, hL2, (fun z => by rw [hr] at z; cases z), hb4⟩
    · rw [if_neg hr] at h
      obtain ⟨rfl, hM2⟩ := hb3 (bT hr)
      exact both_loop hg hop (g + 1) (fun g' hg' => hIH g' (by omega)) _ J2 L2 _ _ r _ hM2 h hF2 hL2
theorem m_either (hg : XG sh R) {f : Nat} (hIH : ∀ g, g < f → PSM E d sh R fr tp n nm g) (hop : op ≤ 5) (hM : MG I L fr tp n nm p op) {v : PV} {r : PR} (h : prs tp n f 1 0 op p [] v = some r) : XC E mX7_either (dA d op + 5) 0 0 [.ref 61] sh I R L (QPm fr tp n nm op r sh I R L) := by
  cases f with
  | zero => cases h
  | succ f =>
    rw [prs_1] at h
    have hd6 := dA_6 (d := d) (op := op)
    obtain ⟨r1, zh1, h⟩ := bnd h
    obtain ⟨g, rfl, zh1⟩ := prs0_0 zh1
    refine XC.of (by decide) rfl rfl ?_
    refine xv_aload_n (q := 1) rfl dX7_either_0 rfl rfl ?_
    refine xv_rV0 (z := mX7_both) (q := 4) rfl dX7_either_1 l_X7_237 gX7_both (hg.1 _ _ rfl) rfl rfl rfl ((hIH g (by omega) op _ I L [] v r1 hop hM).2.2.2.2.1 zh1) (by omega) ?_
    rintro _ _ J2 _ L2 ⟨x, rfl, rfl, rfl, hF2, hL2, hb3, hb4⟩
    refine xv_istore_n (q := 5) rfl dX7_either_4 rfl rfl ?_
    by_cases hr : r1.1 = false
    · rw [if_pos hr] at h
      obtain rfl := Option.some.inj h
      exact either_b hg (hb4 hr) ⟨_, rfl, rfl, rfl, hF2, hL2, (fun z => by rw [hr] at z; cases z), hb4⟩
    · rw [if_neg hr] at h
      obtain ⟨rfl, hM2⟩ := hb3 (bT hr)
      exact either_loop hg hop (g + 1) (fun g' hg' => hIH g' (by omega)) _ J2 L2 _ _ r _ hM2 h hF2 hL2
end MLEV

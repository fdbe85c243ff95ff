/-! the model: NOT, all of the reader's pieces -/
section MNOT
variable {E : XE} {d : Nat} {sh : XSh} {I : XI} {R : XRf} {L : XL} {fr n : Nat} {tp : Nat → Nat} {nm : Nat → Int32} {p op : Nat}
theorem m_not (hg : XG sh R) {f : Nat} (hIH : ∀ g, g < f + 1 → PSM E d sh R fr tp n nm g) (hop : op ≤ 5) (hM : MG I L fr tp n nm p op) {v : PV} {r : PR} (h : prs tp n (f + 1) 3 0 op p [] v = some r) : XC E mX7_not (dA d op + 3) 0 0 [.ref 61] sh I R L (QPm fr tp n nm op r sh I R L) := by
  rw [prs_3] at h
  have hd6 := dA_6 (d := d) (op := op)
  refine XC.of (by decide) rfl rfl ?_
  refine xv_aload_n (q := 1) rfl dX7_not_0 rfl rfl ?_
  refine xv_bipush (v := nI 110) (q := 3) rfl dX7_not_1 rfl ?_
  refine xv_bipush (v := nI 111) (q := 5) rfl dX7_not_3 rfl ?_
  refine xv_bipush (v := nI 116) (q := 7) rfl dX7_not_5 rfl ?_
  refine xv_iconst (v := nI 0) (q := 8) rfl dX7_not_7 rfl ?_
  refine xv_iconst (v := nI 0) (q := 9) rfl dX7_not_8 rfl ?_
  refine xv_iconst (v := nI 0) (q := 10) rfl dX7_not_9 rfl ?_
  refine xv_iconst (v := nI 0) (q := 11) rfl dX7_not_10 rfl ?_
  refine xv_iconst (v := nI 0) (q := 12) rfl dX7_not_11 rfl ?_
  refine xv_cV8 (z := mX7_isWord) (q := 15) rfl dX7_not_12 l_X7_185 gX7_isWord (hg.1 _ _ rfl) rfl rfl rfl (m_isW (d := d) (w := 11) hg hM (by decide)) (by omega) ?_
  rw [tkw_iff (by decide) (by decide)]
  refine xv_if_eq (q := 18) (t := 52) rfl rfl dX7_not_15 (fun h15 => ?_) (fun h15 => ?_)
  · have h15 : ¬ tok tp n p = 9 := of_decide_eq_false (bIz h15)
    rw [if_neg h15] at h
    obtain ⟨r1, zh1, h⟩ := bnd h
    refine xv_aload_n (q := 53) rfl dX7_not_52 rfl rfl ?_
    refine xv_rV0 (z := mX7_added) (q := 56) rfl dX7_not_53 l_X7_232 gX7_added (hg.1 _ _ rfl) rfl rfl rfl ((hIH f (by omega) op _ I L [] v r1 hop hM).2.2.2.1 zh1) (by omega) ?_
    rintro _ _ J2 _ L2 ⟨x, rfl, rfl, rfl, hF2, hL2, hb3, hb4⟩
    refine xv_istore_n (q := 57) rfl dX7_not_56 rfl rfl ?_
    by_cases hr : r1.1 = false
    · rw [if_pos hr] at h
      obtain rfl := Option.some.inj h
      exact not_b hg (hb4 hr) ⟨_, rfl, rfl, rfl, hF2, hL2, (fun z => by rw [hr] at z; cases z), hb4⟩
    rw [if_neg hr] at h
    obtain ⟨rfl, hM2⟩ := hb3 (bT hr)
    obtain ⟨gT, gp, gR, gM29, g28, gn⟩ := id hM2
    refine xv_aload_n (q := 58) rfl dX7_not_57 rfl rfl ?_
    refine xv_bipush (v := nI 60) (q := 60) rfl dX7_not_58 rfl ?_
    refine xv_cV1 (z := mX7_isSign) (q := 63) rfl dX7_not_60 l_X7_207 gX7_isSign (hg.1 _ _ rfl) rfl rfl rfl (m_isSign (d := d) hg) (by omega) ?_
    rw [isS_g hM2 (by decide) (by decide)]
    refine xv_if_ne (q := 66) (t := 77) rfl rfl dX7_not_63 (fun h63 => ?_) (fun h63 => ?_)
    · have h63 : tok tp n r1.2.1 = 60 := of_decide_eq_true (bIn h63)
      rw [if_pos (Or.inl h63)] at h
      obtain ⟨r2, zh2, h⟩ := bnd h
      have hk := tks_of h63 (by decide)
      refine xv_aload_n (q := 78) rfl dX7_not_77 rfl rfl ?_
      refine xv_getl (q := 81) rfl dX7_not_78 f_X7_160 (hg.1 _ _ rfl) ?_
      rw [gR.2.2.2.2 hk.1, hk.2]
      refine xv_ldc2 (q := 84) rfl dX7_not_81 k_X7_235 ?_
      refine xv_lcmp (q := 85) rfl dX7_not_84 ?_
      refine xv_if_ne (q := 88) (t := 92) rfl rfl dX7_not_85 (fun h85 => ?_) (fun h85 => ?_)
      · exact absurd ((lg_cmp_eq _ _).mpr rfl) h85
      · refine xv_iconst (v := nI 1) (q := 89) rfl dX7_not_88 rfl ?_
        refine xv_goto (t := 93) rfl dX7_not_89 ?_
        refine xv_istore_n (q := 94) rfl dX7_not_93 rfl rfl ?_
        refine xv_aload_n (q := 95) rfl dX7_not_94 rfl rfl ?_
        refine xv_rV0 (z := mX7_next) (q := 98) rfl dX7_not_95 l_X7_182 gX7_next (hg.1 _ _ rfl) rfl rfl rfl (m_adv (d := d) hg hM2 (tok_m h63 (by decide))) (by omega) ?_
        rintro _ _ J1 _ L1 ⟨rfl, rfl, rfl, hF1, hL1, hM1⟩
        refine xv_aload_n (q := 99) rfl dX7_not_98 rfl rfl ?_
        refine xv_rV0 (z := mX7_added) (q := 102) rfl dX7_not_99 l_X7_232 gX7_added (hg.1 _ _ rfl) rfl rfl rfl ((hIH f (by omega) op _ J1 L1 [] v r2 hop hM1).2.2.2.1 zh2) (by omega) ?_
        rintro _ _ J3 _ L3 ⟨x3, rfl, rfl, rfl, hF3, hL3, hb5, hb6⟩
        refine xv_istore_n (q := 103) rfl dX7_not_102 rfl rfl ?_
        refine xv_iload_n (q := 104) rfl dX7_not_103 rfl rfl ?_
        refine xv_if_eq (q := 107) (t := 115) rfl rfl dX7_not_104 (fun h104 => ?_) (fun h104 => ?_)
        · exact absurd h104 (by decide)
        · refine xv_iload_n (q := 108) rfl dX7_not_107 rfl rfl ?_
          refine xv_iload_n (q := 109) rfl dX7_not_108 rfl rfl ?_
          refine xv_icmp_ge (q := 112) (t := 124) rfl rfl dX7_not_109 (fun h109 => ?_) (fun h109 => ?_)
          · refine xv_iconst (v := nI 0) (q := 125) rfl dX7_not_124 rfl ?_
            refine xv_iret dX7_not_125 rfl ?_
            by_cases hr2 : r2.1 = false
            · rw [if_pos hr2] at h
              obtain rfl := Option.some.inj h
              exact ⟨_, rfl, rfl, rfl, (hF2.trans hF1).trans hF3, (hL2.trans hL1).trans hL3, (fun z => by rw [hr2] at z; cases z), fun z => hb6 z⟩
            · rw [if_neg hr2] at h
              obtain rfl := Option.some.inj h
              obtain ⟨rfl, hM3⟩ := hb5 (bT hr2)
              refine ⟨_, rfl, rfl, rfl, (hF2.trans hF1).trans hF3, (hL2.trans hL1).trans hL3, fun _ => ⟨?_, hM3⟩, (fun z => by cases z)⟩
              show _ = wop nm (cdo (tok tp n r1.2.1)) (r1.2.2.2 nm) (r2.2.2.2 nm)
              rw [h63]
              exact (show _ = bI (decide (r1.2.2.2 nm < r2.2.2.2 nm)) from by rw [decide_eq_false (Int32.not_lt.mpr h109)]; rfl).trans (wop_m9 nm _ _).symm
          · refine xv_goto (t := 120) rfl dX7_not_112 ?_
            refine xv_iconst (v := nI 1) (q := 121) rfl dX7_not_120 rfl ?_
            refine xv_goto (t := 125) rfl dX7_not_121 ?_
            refine xv_iret dX7_not_125 rfl ?_
            by_cases hr2 : r2.1 = false
            · rw [if_pos hr2] at h
              obtain rfl := Option.some.inj h
              exact ⟨_, rfl, rfl, rfl, (hF2.trans hF1).trans hF3, (hL2.trans hL1).trans hL3, (fun z => by rw [hr2] at z; cases z), fun z => hb6 z⟩
            · rw [if_neg hr2] at h
              obtain rfl := Option.some.inj h
              obtain ⟨rfl, hM3⟩ := hb5 (bT hr2)
              refine ⟨_, rfl, rfl, rfl, (hF2.trans hF1).trans hF3, (hL2.trans hL1).trans hL3, fun _ => ⟨?_, hM3⟩, (fun z => by cases z)⟩
              show _ = wop nm (cdo (tok tp n r1.2.1)) (r1.2.2.2 nm) (r2.2.2.2 nm)
              rw [h63]
              exact (show _ = bI (decide (r1.2.2.2 nm < r2.2.2.2 nm)) from by rw [decide_eq_true (Int32.not_le.mp h109)]; rfl).trans (wop_m9 nm _ _).symm
    · have h63 : ¬ tok tp n r1.2.1 = 60 := of_decide_eq_false (bIz h63)
      refine xv_aload_n (q := 67) rfl dX7_not_66 rfl rfl ?_
      refine xv_bipush (v := nI 61) (q := 69) rfl dX7_not_67 rfl ?_
      refine xv_cV1 (z := mX7_isSign) (q := 72) rfl dX7_not_69 l_X7_207 gX7_isSign (hg.1 _ _ rfl) rfl rfl rfl (m_isSign (d := d) hg) (by omega) ?_
      rw [isS_g hM2 (by decide) (by decide)]
      refine xv_if_ne (q := 75) (t := 77) rfl rfl dX7_not_72 (fun h72 => ?_) (fun h72 => ?_)
      · have h72 : tok tp n r1.2.1 = 61 := of_decide_eq_true (bIn h72)
        rw [if_pos (Or.inr h72)] at h
        obtain ⟨r2, zh2, h⟩ := bnd h
        have hk := tks_of h72 (by decide)
        refine xv_aload_n (q := 78) rfl dX7_not_77 rfl rfl ?_
        refine xv_getl (q := 81) rfl dX7_not_78 f_X7_160 (hg.1 _ _ rfl) ?_
        rw [gR.2.2.2.2 hk.1, hk.2]
        refine xv_ldc2 (q := 84) rfl dX7_not_81 k_X7_235 ?_
        refine xv_lcmp (q := 85) rfl dX7_not_84 ?_
        refine xv_if_ne (q := 88) (t := 92) rfl rfl dX7_not_85 (fun h85 => ?_) (fun h85 => ?_)
        · refine xv_iconst (v := nI 0) (q := 93) rfl dX7_not_92 rfl ?_
          refine xv_istore_n (q := 94) rfl dX7_not_93 rfl rfl ?_
          refine xv_aload_n (q := 95) rfl dX7_not_94 rfl rfl ?_
          refine xv_rV0 (z := mX7_next) (q := 98) rfl dX7_not_95 l_X7_182 gX7_next (hg.1 _ _ rfl) rfl rfl rfl (m_adv (d := d) hg hM2 (tok_m h72 (by decide))) (by omega) ?_
          rintro _ _ J1 _ L1 ⟨rfl, rfl, rfl, hF1, hL1, hM1⟩
          refine xv_aload_n (q := 99) rfl dX7_not_98 rfl rfl ?_
          refine xv_rV0 (z := mX7_added) (q := 102) rfl dX7_not_99 l_X7_232 gX7_added (hg.1 _ _ rfl) rfl rfl rfl ((hIH f (by omega) op _ J1 L1 [] v r2 hop hM1).2.2.2.1 zh2) (by omega) ?_
          rintro _ _ J3 _ L3 ⟨x3, rfl, rfl, rfl, hF3, hL3, hb5, hb6⟩
          refine xv_istore_n (q := 103) rfl dX7_not_102 rfl rfl ?_
          refine xv_iload_n (q := 104) rfl dX7_not_103 rfl rfl ?_
          refine xv_if_eq (q := 107) (t := 115) rfl rfl dX7_not_104 (fun h104 => ?_) (fun h104 => ?_)
          · refine xv_iload_n (q := 116) rfl dX7_not_115 rfl rfl ?_
            refine xv_iload_n (q := 117) rfl dX7_not_116 rfl rfl ?_
            refine xv_icmp_ne (q := 120) (t := 124) rfl rfl dX7_not_117 (fun h117 => ?_) (fun h117 => ?_)
            · refine xv_iconst (v := nI 0) (q := 125) rfl dX7_not_124 rfl ?_
              refine xv_iret dX7_not_125 rfl ?_
              by_cases hr2 : r2.1 = false
              · rw [if_pos hr2] at h
                obtain rfl := Option.some.inj h
                exact ⟨_, rfl, rfl, rfl, (hF2.trans hF1).trans hF3, (hL2.trans hL1).trans hL3, (fun z => by rw [hr2] at z; cases z), fun z => hb6 z⟩
              · rw [if_neg hr2] at h
                obtain rfl := Option.some.inj h
                obtain ⟨rfl, hM3⟩ := hb5 (bT hr2)
                refine ⟨_, rfl, rfl, rfl, (hF2.trans hF1).trans hF3, (hL2.trans hL1).trans hL3, fun _ => ⟨?_, hM3⟩, (fun z => by cases z)⟩
                show _ = wop nm (cdo (tok tp n r1.2.1)) (r1.2.2.2 nm) (r2.2.2.2 nm)
                rw [h72]
                exact (show _ = bI (decide (r1.2.2.2 nm = r2.2.2.2 nm)) from by rw [decide_eq_false h117]; rfl).trans (wop_m10 nm _ _).symm
            · refine xv_iconst (v := nI 1) (q := 121) rfl dX7_not_120 rfl ?_
              refine xv_goto (t := 125) rfl dX7_not_121 ?_
              refine xv_iret dX7_not_125 rfl ?_
              by_cases hr2 : r2.1 = false
              · rw [if_pos hr2] at h
                obtain rfl := Option.some.inj h
                exact ⟨_, rfl, rfl, rfl, (hF2.trans hF1).trans hF3, (hL2.trans hL1).trans hL3, (fun z => by rw [hr2] at z; cases z), fun z => hb6 z⟩
              · rw [if_neg hr2] at h
                obtain rfl := Option.some.inj h
                obtain ⟨rfl, hM3⟩ := hb5 (bT hr2)
                refine ⟨_, rfl, rfl, rfl, (hF2.trans hF1).trans hF3, (hL2.trans hL1).trans hL3, fun _ => ⟨?_, hM3⟩, (fun z => by cases z)⟩
                show _ = wop nm (cdo (tok tp n r1.2.1)) (r1.2.2.2 nm) (r2.2.2.2 nm)
                rw [h72]
                exact (show _ = bI (decide (r1.2.2.2 nm = r2.2.2.2 nm)) from by rw [decide_eq_true h117]; rfl).trans (wop_m10 nm _ _).symm
          · exact absurd rfl h104
        · exact absurd ((lg_cmp_eq _ _).mp h85) (by decide)
      · have h72 : ¬ tok tp n r1.2.1 = 61 := of_decide_eq_false (bIz h72)
        rw [if_neg (fun z => z.elim h63 h72)] at h
        obtain rfl := Option.some.inj h
        refine xv_iload_n (q := 76) rfl dX7_not_75 rfl rfl ?_
        refine xv_iret dX7_not_76 rfl ?_
        exact ⟨_, rfl, rfl, rfl, hF2, hL2, fun _ => ⟨rfl, hM2⟩, fun z => absurd z hr⟩
  · have h15 : tok tp n p = 9 := of_decide_eq_true (bIn h15)
    rw [if_pos h15] at h
    refine xv_aload_n (q := 19) rfl dX7_not_18 rfl rfl ?_
    refine xv_rV0 (z := mX7_opens) (q := 22) rfl dX7_not_19 l_X7_210 gX7_opens (hg.1 _ _ rfl) rfl rfl rfl (m_opens (d := d) hg hM hop (tok_m h15 (by decide))) (by omega) ?_
    rintro _ _ J1 _ L1 ⟨b, rfl, rfl, rfl, hF1, hL1, hb1, hb2⟩
    refine xv_if_ne (q := 25) (t := 27) rfl rfl dX7_not_22 (fun h22 => ?_) (fun h22 => ?_)
    · have ⟨ze5, hM1⟩ := hb1 (bIn h22)
      rw [if_neg (by omega)] at h
      obtain ⟨r1, zh1, h⟩ := bnd h
      have hds := dA_s (d := d) ze5
      refine xv_aload_n (q := 28) rfl dX7_not_27 rfl rfl ?_
      refine xv_rV0 (z := mX7_not) (q := 31) rfl dX7_not_28 l_X7_229 gX7_not (hg.1 _ _ rfl) rfl rfl rfl ((hIH f (by omega) (op + 1) _ J1 L1 [] v r1 ze5 hM1).2.1 zh1) (by omega) ?_
      rintro _ _ J2 _ L2 ⟨x, rfl, rfl, rfl, hF2, hL2, hb3, hb4⟩
      refine xv_istore_n (q := 32) rfl dX7_not_31 rfl rfl ?_
      refine xv_aload_n (q := 33) rfl dX7_not_32 rfl rfl ?_
      refine xv_dup (q := 34) rfl dX7_not_33 rfl ?_
      refine xv_geti (q := 37) rfl dX7_not_34 f_X7_176 (hg.1 _ _ rfl) ?_
      refine xv_iconst (v := nI 1) (q := 38) rfl dX7_not_37 rfl ?_
      refine xv_isub (q := 39) rfl dX7_not_38 ?_
      refine xv_puti (q := 42) rfl dX7_not_39 f_X7_176 (fun h => by cases h) (hg.1 _ _ rfl) ?_
      refine xv_iload_n (q := 43) rfl dX7_not_42 rfl rfl ?_
      refine xv_if_ne (q := 46) (t := 50) rfl rfl dX7_not_43 (fun h43 => ?_) (fun h43 => ?_)
      · refine xv_iconst (v := nI 0) (q := 51) rfl dX7_not_50 rfl ?_
        refine xv_iret dX7_not_51 rfl ?_
        by_cases hr : r1.1 = false
        · rw [if_pos hr] at h
          obtain rfl := Option.some.inj h
          exact ⟨_, rfl, rfl, rfl, fpa_op (hF1.trans hF2), hL1.trans hL2, (fun z => by rw [hr] at z; cases z), fun z => (hb4 z).op⟩
        · rw [if_neg hr] at h
          obtain rfl := Option.some.inj h
          obtain ⟨rfl, hM2⟩ := hb3 (bT hr)
          refine ⟨_, rfl, rfl, rfl, fpa_op (hF1.trans hF2), hL1.trans hL2, fun _ => ⟨?_, ?_⟩, (fun z => by cases z)⟩
          · exact (by rw [decide_eq_false h43]; rfl : _ = bI (decide (r1.2.2.2 nm = 0))).trans (wop_m14 nm _ 0).symm
          · rw [show J2 61 28 - nI 1 = nI op from by rw [hM2.2.2.2.2.1]; exact nI_sub1 op]
            exact hM2.op
      · refine xv_iconst (v := nI 1) (q := 47) rfl dX7_not_46 rfl ?_
        refine xv_goto (t := 51) rfl dX7_not_47 ?_
        refine xv_iret dX7_not_51 rfl ?_
        by_cases hr : r1.1 = false
        · rw [if_pos hr] at h
          obtain rfl := Option.some.inj h
          exact ⟨_, rfl, rfl, rfl, fpa_op (hF1.trans hF2), hL1.trans hL2, (fun z => by rw [hr] at z; cases z), fun z => (hb4 z).op⟩
        · rw [if_neg hr] at h
          obtain rfl := Option.some.inj h
          obtain ⟨rfl, hM2⟩ := hb3 (bT hr)
          refine ⟨_, rfl, rfl, rfl, fpa_op (hF1.trans hF2), hL1.trans hL2, fun _ => ⟨?_, ?_⟩, (fun z => by cases z)⟩
          · exact (by rw [decide_eq_true h43]; rfl : _ = bI (decide (r1.2.2.2 nm = 0))).trans (wop_m14 nm _ 0).symm
          · rw [show J2 61 28 - nI 1 = nI op from by rw [hM2.2.2.2.2.1]; exact nI_sub1 op]
            exact hM2.op
    · have ⟨ze5, hB⟩ := hb2 (bIz h22)
      rw [if_pos (by omega)] at h
      obtain rfl := Option.some.inj h
      refine xv_iconst (v := nI 0) (q := 26) rfl dX7_not_25 rfl ?_
      refine xv_iret dX7_not_26 rfl ?_
      exact ⟨_, rfl, rfl, rfl, hF1, hL1, (fun z => by cases z), fun _ => hB⟩
theorem m_psm (hg : XG sh R) : ∀ (f g : Nat), g < f → PSM E d sh R fr tp n nm g := by
  intro f
  induction f with
  | zero => intro g h; exact absurd h (Nat.not_lt_zero _)
  | succ f ih =>
    intro g hgf op p J K sg v r hop hM
    have hIH : ∀ k, k < g → PSM E d sh R fr tp n nm k := fun k hk => ih k (by omega)
    refine ⟨fun h => ?_, fun h => ?_, fun h => m_term hg hIH hop hM h, fun h => m_added hg hIH hop hM h, fun h => m_both hg hIH hop hM h, fun h => m_either hg hIH hop hM h⟩
    · cases g with
      | zero => cases h
      | succ g => exact m_atom hg (hIH g (by omega)) hop hM h
    · cases g with
      | zero => cases h
      | succ g => exact m_not hg hIH hop hM h
/-- an E, from p on -/
theorem m_E (hg : XG sh R) (hM : MG I L fr tp n nm p 0) : XC E mX7_either (d + 41) 0 0 [.ref 61] sh I R L (QPm fr tp n nm 0 (pe tp n p) sh I R L) := by
  obtain ⟨F, hF⟩ := pe_ok (tp := tp) (n := n) (p := p) hM.1.2.2.1 hM.2.1
  exact (m_psm (E := E) (d := d) (fr := fr) (tp := tp) (n := n) (nm := nm) hg (F + 1) F (by omega) 0 p I L [] (fun _ => 0) _ (by decide) hM).2.2.2.2.2 hF
end MNOT

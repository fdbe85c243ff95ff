theorem cdp_s {lv : Nat} (h : lv = 0 ∨ lv = 2) : cdp (lv + 1) + 1 ≤ cdp lv := by rcases h with rfl | rfl <;> decide
section PARSE3
variable {E : XE} {d : Nat} {sh : XSh} {I : XI} {R : XRf} {L : XL} {tp : Nat → Nat} {n : Nat}
theorem c_perhapsNot (hg : XG sh R) {f op p cl : Nat} {v : PV} {r : PR} (IH : PS3 E d sh R L tp n f) (hop : op ≤ 5) (h : prs tp n (f + 1) 3 0 op p [] v = some r) (hS : PSt I tp n p cl) : XC E mX1_perhapsNot (d + bdp op + 3) 0 0 [.ref 17, .int (nI op)] sh I R L (PQ r cl tp n sh I R L) := by
  obtain ⟨hT, hP, hc, hcp, hpn⟩ := id hS
  have htk := hT.lt p
  have hn160 := hT.2.1
  have hb9 := bdp_9 op
  have hc2 : cdp 2 = 2 := rfl
  rw [prs_3] at h
  refine XC.of (by decide) rfl rfl ?_
  refine xv_aload_n (q := 1) rfl dX1_perhapsNot_0 rfl rfl ?_
  refine xv_geti (q := 4) rfl dX1_perhapsNot_1 f_X1_39 (hg.1 _ _ rfl) ?_
  rw [hP.2.2.1]
  refine xv_bipush (v := nI 9) (q := 6) rfl dX1_perhapsNot_4 rfl ?_
  refine xv_icmp_ne (q := 9) (t := 45) rfl rfl dX1_perhapsNot_6 (fun h6 => ?_) (fun h6 => ?_)
  · have h6 : ¬ tok tp n p = 9 := fun q => h6 (by rw [q])
    rw [if_neg h6] at h
    obtain ⟨a, ha, h⟩ := bnd h
    have hpos := prs_pos f 1 2 op p [] v a (by omega) (fun _ => rfl) hpn ha
    refine xv_aload_n (q := 46) rfl dX1_perhapsNot_45 rfl rfl ?_
    refine xv_iconst (v := nI 2) (q := 47) rfl dX1_perhapsNot_46 rfl ?_
    refine xv_iload_n (q := 48) rfl dX1_perhapsNot_47 rfl rfl ?_
    refine xv_rV2 (z := mX1_chain) (q := 51) rfl dX1_perhapsNot_48 l_X1_35 gX1_chain (hg.1 _ _ rfl) rfl rfl rfl ((IH 1 2 op p cl v a I (by omega) hop ha hS).1 rfl) (by omega) ?_
    rintro _ _ M _ _ ⟨rfl, rfl, rfl, rfl, m1, m2, m3, m4⟩
    refine xv_if_ne (q := 54) (t := 56) rfl rfl dX1_perhapsNot_51 (fun h51 => ?_) (fun h51 => ?_)
    · have ea : a.1 = true := bIn h51
      rw [if_neg (by rw [ea]; decide)] at h
      obtain ⟨f1, f2, f3⟩ := m4 ea
      have q1 := (hpos.2.2 ea).1
      have q2 := hpos.2.1
      simp at q1
      have htk2 := hT.lt a.2.1
      refine xv_aload_n (q := 57) rfl dX1_perhapsNot_56 rfl rfl ?_
      refine xv_geti (q := 60) rfl dX1_perhapsNot_57 f_X1_39 (hg.1 _ _ rfl) ?_
      rw [m3.2.2.1]
      refine xv_bipush (v := nI 60) (q := 62) rfl dX1_perhapsNot_60 rfl ?_
      refine xv_icmp_eq (q := 65) (t := 76) rfl rfl dX1_perhapsNot_62 (fun h62 => ?_) (fun h62 => ?_)
      · have h62 : tok tp n a.2.1 = 60 := nIe h62 (by omega) (by omega)
        have hx : tok tp n a.2.1 = 60 ∨ tok tp n a.2.1 = 61 := Or.inl h62
        rw [if_pos hx] at h
        obtain ⟨b, hb, h⟩ := bnd h
        have hng := nxt_gt (tp := tp) (n := n) (p := a.2.1) (by omega)
        have hnl := nxt_le (tp := tp) hpos.2.1
        have hpos2 := prs_pos f 1 2 op (nxt tp n a.2.1) [] v b (by omega) (fun _ => rfl) hnl hb
        refine xv_aload_n (q := 77) rfl dX1_perhapsNot_76 rfl rfl ?_
        refine xv_geti (q := 80) rfl dX1_perhapsNot_77 f_X1_39 (hg.1 _ _ rfl) ?_
        rw [m3.2.2.1]
        refine xv_cS1 (z := mX1_codeOf) (q := 83) rfl dX1_perhapsNot_80 l_X1_66 gX1_codeOf rfl (c_codeOf (d := d) htk2) (by omega) ?_
        refine xv_istore_n (q := 84) rfl dX1_perhapsNot_83 rfl rfl ?_
        refine xv_aload_n (q := 85) rfl dX1_perhapsNot_84 rfl rfl ?_
        refine xv_rV0 (z := mX1_step) (q := 88) rfl dX1_perhapsNot_85 l_X1_28 gX1_step (hg.1 _ _ rfl) rfl rfl rfl (c_step (d := d + bdp op - 7) hg m2 hnl m3.2.1) (by omega) ?_
        rintro _ _ K _ _ ⟨rfl, rfl, rfl, rfl, s1, s2⟩
        refine xv_aload_n (q := 89) rfl dX1_perhapsNot_88 rfl rfl ?_
        refine xv_iconst (v := nI 2) (q := 90) rfl dX1_perhapsNot_89 rfl ?_
        refine xv_iload_n (q := 91) rfl dX1_perhapsNot_90 rfl rfl ?_
        refine xv_rV2 (z := mX1_chain) (q := 94) rfl dX1_perhapsNot_91 l_X1_35 gX1_chain (hg.1 _ _ rfl) rfl rfl rfl ((IH 1 2 op (nxt tp n a.2.1) (cl + a.2.2.1.length) v b K (by omega) hop hb ⟨m2.mv s1, s2, s1.2.2.trans f1, by omega, hnl⟩).1 rfl) (by omega) ?_
        rintro _ _ N _ _ ⟨rfl, rfl, rfl, rfl, n1, n2, n3, n4⟩
        refine xv_if_eq (q := 97) (t := 109) rfl rfl dX1_perhapsNot_94 (fun h94 => ?_) (fun h94 => ?_)
        · refine xv_iconst (v := nI 0) (q := 110) rfl dX1_perhapsNot_109 rfl ?_
          refine xv_zret (ty := .boolean) dX1_perhapsNot_110 rfl rfl ?_
          have eb : b.1 = false := bIz h94
          rw [if_pos eb] at h
          cases h
          exact PQ.bad eb (fun k h1 h2 => (n1 k h1 h2).trans ((s1.1 k h1).trans (m1 k h1 h2))) n2 n3
        · have eb : b.1 = true := bIn h94
          rw [if_neg (by rw [eb]; decide)] at h
          cases h
          have q3 := (hpos2.2.2 eb).1
          have q4 := hpos2.2.1
          simp at q3
          obtain ⟨g1, g2, g3⟩ := n4 eb
          refine xv_aload_n (q := 98) rfl dX1_perhapsNot_97 rfl rfl ?_
          refine xv_iload_n (q := 99) rfl dX1_perhapsNot_98 rfl rfl ?_
          refine xv_cV1 (z := mX1_put) (q := 102) rfl dX1_perhapsNot_99 l_X1_59 gX1_put (hg.1 _ _ rfl) rfl rfl rfl (c_put1 (d := d + bdp op - 1) hg g1 (by omega) (cdo (tok tp n a.2.1))) (by omega) ?_
          refine xv_if_eq (q := 105) (t := 109) rfl rfl dX1_perhapsNot_102 (fun h102 => ?_) (fun h102 => ?_)
          · exact absurd h102 (by decide)
          · refine xv_iconst (v := nI 1) (q := 106) rfl dX1_perhapsNot_105 rfl ?_
            refine xv_goto (t := 110) rfl dX1_perhapsNot_106 ?_
            refine xv_zret (ty := .boolean) dX1_perhapsNot_110 rfl rfl ?_
            exact ⟨rfl, rfl, rfl, rfl, fun k h1 h2 => by rw [xi_off _ _ _ _ h1, xi_off _ _ _ _ h2, n1 k h1 h2, s1.1 k h1]; exact m1 k h1 h2, n2.put, n3.put, fun _ => ((PFr.stp ⟨f1, f2, f3⟩ s1).trans ⟨g1, g2, g3⟩ rfl).put (by rw [List.length_append]; omega)⟩
      · have h62 : ¬ tok tp n a.2.1 = 60 := fun q => h62 (by rw [q])
        refine xv_aload_n (q := 66) rfl dX1_perhapsNot_65 rfl rfl ?_
        refine xv_geti (q := 69) rfl dX1_perhapsNot_66 f_X1_39 (hg.1 _ _ rfl) ?_
        rw [m3.2.2.1]
        refine xv_bipush (v := nI 61) (q := 71) rfl dX1_perhapsNot_69 rfl ?_
        refine xv_icmp_eq (q := 74) (t := 76) rfl rfl dX1_perhapsNot_71 (fun h71 => ?_) (fun h71 => ?_)
        · have h71 : tok tp n a.2.1 = 61 := nIe h71 (by omega) (by omega)
          have hx : tok tp n a.2.1 = 60 ∨ tok tp n a.2.1 = 61 := Or.inr h71
          rw [if_pos hx] at h
          obtain ⟨b, hb, h⟩ := bnd h
          have hng := nxt_gt (tp := tp) (n := n) (p := a.2.1) (by omega)
          have hnl := nxt_le (tp := tp) hpos.2.1
          have hpos2 := prs_pos f 1 2 op (nxt tp n a.2.1) [] v b (by omega) (fun _ => rfl) hnl hb
          refine xv_aload_n (q := 77) rfl dX1_perhapsNot_76 rfl rfl ?_
          refine xv_geti (q := 80) rfl dX1_perhapsNot_77 f_X1_39 (hg.1 _ _ rfl) ?_
          rw [m3.2.2.1]
          refine xv_cS1 (z := mX1_codeOf) (q := 83) rfl dX1_perhapsNot_80 l_X1_66 gX1_codeOf rfl (c_codeOf (d := d) htk2) (by omega) ?_
          refine xv_istore_n (q := 84) rfl dX1_perhapsNot_83 rfl rfl ?_
          refine xv_aload_n (q := 85) rfl dX1_perhapsNot_84 rfl rfl ?_
          refine xv_rV0 (z := mX1_step) (q := 88) rfl dX1_perhapsNot_85 l_X1_28 gX1_step (hg.1 _ _ rfl) rfl rfl rfl (c_step (d := d + bdp op - 7) hg m2 hnl m3.2.1) (by omega) ?_
          rintro _ _ K _ _ ⟨rfl, rfl, rfl, rfl, s1, s2⟩
          refine xv_aload_n (q := 89) rfl dX1_perhapsNot_88 rfl rfl ?_
          refine xv_iconst (v := nI 2) (q := 90) rfl dX1_perhapsNot_89 rfl ?_
          refine xv_iload_n (q := 91) rfl dX1_perhapsNot_90 rfl rfl ?_
          refine xv_rV2 (z := mX1_chain) (q := 94) rfl dX1_perhapsNot_91 l_X1_35 gX1_chain (hg.1 _ _ rfl) rfl rfl rfl ((IH 1 2 op (nxt tp n a.2.1) (cl + a.2.2.1.length) v b K (by omega) hop hb ⟨m2.mv s1, s2, s1.2.2.trans f1, by omega, hnl⟩).1 rfl) (by omega) ?_
          rintro _ _ N _ _ ⟨rfl, rfl, rfl, rfl, n1, n2, n3, n4⟩
          refine xv_if_eq (q := 97) (t := 109) rfl rfl dX1_perhapsNot_94 (fun h94 => ?_) (fun h94 => ?_)
          · refine xv_iconst (v := nI 0) (q := 110) rfl dX1_perhapsNot_109 rfl ?_
            refine xv_zret (ty := .boolean) dX1_perhapsNot_110 rfl rfl ?_
            have eb : b.1 = false := bIz h94
            rw [if_pos eb] at h
            cases h
            exact PQ.bad eb (fun k h1 h2 => (n1 k h1 h2).trans ((s1.1 k h1).trans (m1 k h1 h2))) n2 n3
          · have eb : b.1 = true := bIn h94
            rw [if_neg (by rw [eb]; decide)] at h
            cases h
            have q3 := (hpos2.2.2 eb).1
            have q4 := hpos2.2.1
            simp at q3
            obtain ⟨g1, g2, g3⟩ := n4 eb
            refine xv_aload_n (q := 98) rfl dX1_perhapsNot_97 rfl rfl ?_
            refine xv_iload_n (q := 99) rfl dX1_perhapsNot_98 rfl rfl ?_
            refine xv_cV1 (z := mX1_put) (q := 102) rfl dX1_perhapsNot_99 l_X1_59 gX1_put (hg.1 _ _ rfl) rfl rfl rfl (c_put1 (d := d + bdp op - 1) hg g1 (by omega) (cdo (tok tp n a.2.1))) (by omega) ?_
            refine xv_if_eq (q := 105) (t := 109) rfl rfl dX1_perhapsNot_102 (fun h102 => ?_) (fun h102 => ?_)
            · exact absurd h102 (by decide)
            · refine xv_iconst (v := nI 1) (q := 106) rfl dX1_perhapsNot_105 rfl ?_
              refine xv_goto (t := 110) rfl dX1_perhapsNot_106 ?_
              refine xv_zret (ty := .boolean) dX1_perhapsNot_110 rfl rfl ?_
              exact ⟨rfl, rfl, rfl, rfl, fun k h1 h2 => by rw [xi_off _ _ _ _ h1, xi_off _ _ _ _ h2, n1 k h1 h2, s1.1 k h1]; exact m1 k h1 h2, n2.put, n3.put, fun _ => ((PFr.stp ⟨f1, f2, f3⟩ s1).trans ⟨g1, g2, g3⟩ rfl).put (by rw [List.length_append]; omega)⟩
        · have h71 : ¬ tok tp n a.2.1 = 61 := fun q => h71 (by rw [q])
          refine xv_iconst (v := nI 1) (q := 75) rfl dX1_perhapsNot_74 rfl ?_
          refine xv_zret (ty := .boolean) dX1_perhapsNot_75 rfl rfl ?_
          rw [if_neg (by omega)] at h
          cases h
          exact ⟨by rw [ea]; rfl, rfl, rfl, rfl, m1, m2, m3, fun _ => ⟨f1, f2, f3⟩⟩
    · refine xv_iconst (v := nI 0) (q := 55) rfl dX1_perhapsNot_54 rfl ?_
      refine xv_zret (ty := .boolean) dX1_perhapsNot_55 rfl rfl ?_
      have ea : a.1 = false := bIz h51
      rw [if_pos ea] at h
      cases h
      exact PQ.bad ea m1 m2 m3
  · have h6 : tok tp n p = 9 := nIe h6 (by omega) (by omega)
    rw [if_pos h6] at h
    refine xv_iload_n (q := 10) rfl dX1_perhapsNot_9 rfl rfl ?_
    refine xv_iconst (v := nI 5) (q := 11) rfl dX1_perhapsNot_10 rfl ?_
    refine xv_icmp_lt (q := 14) (t := 16) rfl rfl dX1_perhapsNot_11 (fun h11 => ?_) (fun h11 => ?_)
    · have h11 : op < 5 := nIlt h11 (by omega) (by omega)
      rw [if_neg (by omega)] at h
      obtain ⟨a, ha, h⟩ := bnd h
      have hng := nxt_gt (tp := tp) (n := n) (p := p) (by omega)
      have hnl := nxt_le (tp := tp) hpn
      have hb6 := bdp_s h11
      have hpos := prs_pos f 3 0 (op + 1) (nxt tp n p) [] v a (by omega) (fun _ => rfl) hnl ha
      refine xv_aload_n (q := 17) rfl dX1_perhapsNot_16 rfl rfl ?_
      refine xv_rV0 (z := mX1_step) (q := 20) rfl dX1_perhapsNot_17 l_X1_28 gX1_step (hg.1 _ _ rfl) rfl rfl rfl (c_step (d := d + bdp op - 7) hg hT (nxt_le hpn) hP.2.1) (by omega) ?_
      rintro _ _ K _ _ ⟨rfl, rfl, rfl, rfl, s1, s2⟩
      refine xv_aload_n (q := 21) rfl dX1_perhapsNot_20 rfl rfl ?_
      refine xv_iload_n (q := 22) rfl dX1_perhapsNot_21 rfl rfl ?_
      refine xv_iconst (v := nI 1) (q := 23) rfl dX1_perhapsNot_22 rfl ?_
      refine xv_iadd (q := 24) rfl dX1_perhapsNot_23 ?_
      refine xv_as (w := nI (op + 1)) (nI_add _ _) ?_
      refine xv_rV1 (z := mX1_perhapsNot) (q := 27) rfl dX1_perhapsNot_24 l_X1_53 gX1_perhapsNot (hg.1 _ _ rfl) rfl rfl rfl ((IH 3 0 (op + 1) (nxt tp n p) cl v a K (by omega) (by omega) ha ⟨hT.mv s1, s2, s1.2.2.trans hc, by omega, hnl⟩).2.1 rfl) (by omega) ?_
      rintro _ _ M _ _ ⟨rfl, rfl, rfl, rfl, m1, m2, m3, m4⟩
      refine xv_if_eq (q := 30) (t := 43) rfl rfl dX1_perhapsNot_27 (fun h27 => ?_) (fun h27 => ?_)
      · refine xv_iconst (v := nI 0) (q := 44) rfl dX1_perhapsNot_43 rfl ?_
        refine xv_zret (ty := .boolean) dX1_perhapsNot_44 rfl rfl ?_
        have ea : a.1 = false := bIz h27
        rw [if_pos ea] at h
        cases h
        exact PQ.bad ea (fun k h1 h2 => (m1 k h1 h2).trans (s1.1 k h1)) m2 m3
      · have ea : a.1 = true := bIn h27
        rw [if_neg (by rw [ea]; decide)] at h
        cases h
        have q1 := (hpos.2.2 ea).1
        have q2 := hpos.2.1
        simp at q1
        obtain ⟨f1, f2, f3⟩ := m4 ea
        refine xv_aload_n (q := 31) rfl dX1_perhapsNot_30 rfl rfl ?_
        refine xv_bipush (v := (-14)) (q := 33) rfl dX1_perhapsNot_31 rfl ?_
        refine xv_cV1 (z := mX1_put) (q := 36) rfl dX1_perhapsNot_33 l_X1_59 gX1_put (hg.1 _ _ rfl) rfl rfl rfl (c_put1 (d := d + bdp op - 1) hg f1 (by omega) (-14)) (by omega) ?_
        refine xv_if_eq (q := 39) (t := 43) rfl rfl dX1_perhapsNot_36 (fun h36 => ?_) (fun h36 => ?_)
        · exact absurd h36 (by decide)
        · refine xv_iconst (v := nI 1) (q := 40) rfl dX1_perhapsNot_39 rfl ?_
          refine xv_goto (t := 44) rfl dX1_perhapsNot_40 ?_
          refine xv_zret (ty := .boolean) dX1_perhapsNot_44 rfl rfl ?_
          exact ⟨rfl, rfl, rfl, rfl, fun k h1 h2 => by rw [xi_off _ _ _ _ h1, xi_off _ _ _ _ h2, m1 k h1 h2]; exact s1.1 k h1, m2.put, m3.put, fun _ => (((PFr.nil hc).stp s1).trans ⟨f1, f2, f3⟩ rfl).put rfl⟩
    · have h11 : 5 ≤ op := nInlt h11 (by omega) (by omega)
      rw [if_pos h11] at h
      cases h
      refine xv_iconst (v := nI 0) (q := 15) rfl dX1_perhapsNot_14 rfl ?_
      refine xv_zret (ty := .boolean) dX1_perhapsNot_15 rfl rfl ?_
      exact PQ.bad rfl (fun _ _ _ => rfl) hT hP
/-- what a level joins: at 13, comes to 47 with its answer -/
theorem c_item (hg : XG sh R) {f lv op p cl : Nat} {v : PV} {r : PR} {Q : XQ} {J : XI} {l3 l4 l5 : Option Value} (IH : PS3 E d sh R L tp n f) (hlv : lv < 4) (hop : op ≤ 5) (h : prs tp n (f + 1) 0 lv op p [] v = some r) (hS : PSt J tp n p cl)
    (kk : ∀ K : XI, (∀ k, k ≠ 17 → k ≠ 19 → K k = J k) → RdT K tp n → RdP K tp n r.2.1 → (r.1 = true → PFr J K cl r.2.2.1) → XV E mX1_chain (d + bdp op + cdp lv) 0 0 Q 0 0 47 [some (.ref 17), some (.int (nI lv)), some (.int (nI op)), l3, l4, l5] [.int (bI r.1)] sh K R L) :
    XV E mX1_chain (d + bdp op + cdp lv) 0 0 Q 0 0 13 [some (.ref 17), some (.int (nI lv)), some (.int (nI op)), l3, l4, l5] [] sh J R L := by
  rw [prs_0] at h
  refine xv_iload_n (q := 14) rfl dX1_chain_13 rfl rfl ?_
  refine xv_iconst (v := nI 1) (q := 15) rfl dX1_chain_14 rfl ?_
  refine xv_icmp_ne (q := 18) (t := 26) rfl rfl dX1_chain_15 (fun h15 => ?_) (fun h15 => ?_)
  · have h15 : ¬ lv = 1 := fun q => h15 (by rw [q])
    rw [if_neg h15] at h
    refine xv_iload_n (q := 27) rfl dX1_chain_26 rfl rfl ?_
    refine xv_iconst (v := nI 3) (q := 28) rfl dX1_chain_27 rfl ?_
    refine xv_icmp_ne (q := 31) (t := 39) rfl rfl dX1_chain_28 (fun h28 => ?_) (fun h28 => ?_)
    · have h28 : ¬ lv = 3 := fun q => h28 (by rw [q])
      rw [if_neg h28] at h
      refine xv_aload_n (q := 40) rfl dX1_chain_39 rfl rfl ?_
      refine xv_iload_n (q := 41) rfl dX1_chain_40 rfl rfl ?_
      refine xv_iconst (v := nI 1) (q := 42) rfl dX1_chain_41 rfl ?_
      refine xv_iadd (q := 43) rfl dX1_chain_42 ?_
      refine xv_as (w := nI (lv + 1)) (nI_add _ _) ?_
      refine xv_iload_n (q := 44) rfl dX1_chain_43 rfl rfl ?_
      refine xv_rV2 (z := mX1_chain) (q := 47) rfl dX1_chain_44 l_X1_35 gX1_chain (hg.1 _ _ rfl) rfl rfl rfl ((IH 1 (lv + 1) op p cl v r J (by omega) hop h hS).1 rfl) (by have := cdp_s (lv := lv) (by omega); omega) ?_
      rintro _ _ M _ _ ⟨rfl, rfl, rfl, rfl, m1, m2, m3, m4⟩
      exact kk M m1 m2 m3 m4
    · have h28 : lv = 3 := nIe h28 (by omega) (by omega)
      rw [if_pos h28] at h
      subst h28
      refine xv_aload_n (q := 32) rfl dX1_chain_31 rfl rfl ?_
      refine xv_iload_n (q := 33) rfl dX1_chain_32 rfl rfl ?_
      refine xv_rV1 (z := mX1_single) (q := 36) rfl dX1_chain_33 l_X1_56 gX1_single (hg.1 _ _ rfl) rfl rfl rfl ((IH 4 0 op p cl v r J (by omega) hop h hS).2.2 rfl) (by show _ ≤ d + bdp op + 1; omega) ?_
      rintro _ _ M _ _ ⟨rfl, rfl, rfl, rfl, m1, m2, m3, m4⟩
      refine xv_goto (t := 47) rfl dX1_chain_36 ?_
      exact kk M m1 m2 m3 m4
  · have h15 : lv = 1 := nIe h15 (by omega) (by omega)
    rw [if_pos h15] at h
    subst h15
    refine xv_aload_n (q := 19) rfl dX1_chain_18 rfl rfl ?_
    refine xv_iload_n (q := 20) rfl dX1_chain_19 rfl rfl ?_
    refine xv_rV1 (z := mX1_perhapsNot) (q := 23) rfl dX1_chain_20 l_X1_53 gX1_perhapsNot (hg.1 _ _ rfl) rfl rfl rfl ((IH 3 0 op p cl v r J (by omega) hop h hS).2.1 rfl) (by show _ ≤ d + bdp op + 4; omega) ?_
    rintro _ _ M _ _ ⟨rfl, rfl, rfl, rfl, m1, m2, m3, m4⟩
    refine xv_goto (t := 47) rfl dX1_chain_23 ?_
    exact kk M m1 m2 m3 m4
theorem c_chain_loop (hg : XG sh R) {F lv op cl : Nat} {J : XI} (IH : ∀ g, g < F → PS3 E d sh R L tp n g) (hlv : lv < 4) (hop : op ≤ 5) :
    ∀ (f p m : Nat) (sg : List Int32) (v : PV) (r : PR) (K : XI) (l3 l5 : Option Value), f ≤ F → prs tp n f 2 lv op p sg v = some r → RdT K tp n → RdP K tp n p → (∀ k, k ≠ 17 → k ≠ 19 → K k = J k) → PFr J K cl sg → cl + sg.length ≤ p → p ≤ n → m + 1 ≤ p →
    XV E mX1_chain (d + bdp op + cdp lv) 0 0 (PQ r cl tp n sh J R L) 0 0 69 [some (.ref 17), some (.int (nI lv)), some (.int (nI op)), l3, some (.int (nI m)), l5] [] sh K R L := by
  intro f
  induction f with
  | zero => intro p m sg v r K l3 l5 _ h; cases h
  | succ f ih =>
    intro p m sg v r K l3 l5 hfF h hT hP hJK hF hcp hpn hm
    have htk := hT.lt p
    have hn160 := hT.2.1
    have hb9 := bdp_9 op
    have hcd : 1 ≤ cdp lv := by unfold cdp; split <;> (try split) <;> (try split) <;> omega
    rw [prs_2] at h
    refine xv_aload_n (q := 70) rfl dX1_chain_69 rfl rfl ?_
    refine xv_geti (q := 73) rfl dX1_chain_70 f_X1_39 (hg.1 _ _ rfl) ?_
    rw [hP.2.2.1]
    refine xv_cS1 (z := mX1_levelOf) (q := 76) rfl dX1_chain_73 l_X1_62 gX1_levelOf rfl (c_levelOf (d := d) htk) (by omega) ?_
    refine xv_iload_n (q := 77) rfl dX1_chain_76 rfl rfl ?_
    refine xv_icmp_eq (q := 80) (t := 82) rfl rfl dX1_chain_77 (fun h77 => ?_) (fun h77 => ?_)
    · have h77 := (lvI_eq hlv).mp h77
      rw [if_neg (fun q => q h77)] at h
      obtain ⟨a, ha, h⟩ := bnd h
      have hng := nxt_gt (lvo_ne h77 hlv) (tp := tp) (n := n) (p := p)
      have hnl := nxt_le (tp := tp) hpn
      refine xv_aload_n (q := 83) rfl dX1_chain_82 rfl rfl ?_
      refine xv_geti (q := 86) rfl dX1_chain_83 f_X1_39 (hg.1 _ _ rfl) ?_
      rw [hP.2.2.1]
      refine xv_cS1 (z := mX1_codeOf) (q := 89) rfl dX1_chain_86 l_X1_66 gX1_codeOf rfl (c_codeOf (d := d) htk) (by omega) ?_
      refine xv_istore_n (q := 90) rfl dX1_chain_89 rfl rfl ?_
      refine xv_aload_n (q := 91) rfl dX1_chain_90 rfl rfl ?_
      refine xv_rV0 (z := mX1_step) (q := 94) rfl dX1_chain_91 l_X1_28 gX1_step (hg.1 _ _ rfl) rfl rfl rfl (c_step (d := d + bdp op - 7) hg hT hnl hP.2.1) (by omega) ?_
      rintro _ _ M _ _ ⟨rfl, rfl, rfl, rfl, s1, s2⟩
      refine xv_iinc (q := 97) (v := nI 1) rfl dX1_chain_94 rfl rfl ?_
      rw [nI_add]
      refine xv_goto (t := 5) rfl dX1_chain_97 ?_
      refine xv_iload (q := 7) rfl dX1_chain_5 rfl ?_
      refine xv_sipush (v := nI 160) (q := 10) rfl dX1_chain_7 rfl ?_
      refine xv_icmp_ge (q := 13) (t := 100) rfl rfl dX1_chain_10 (fun h10 => ?_) (fun h10 => ?_)
      · exact absurd (nIle h10 (by omega) (by omega)) (by omega)
      · obtain ⟨f2, rfl⟩ : ∃ f2, f = f2 + 1 := by
          cases f with
          | zero => cases ha
          | succ f2 => exact ⟨f2, rfl⟩
        have hpos := prs_pos (f2 + 1) 0 lv op (nxt tp n p) [] v a hlv (fun _ => rfl) hnl ha
        refine c_item hg (IH f2 (by omega)) hlv hop ha ⟨hT.mv s1, s2, s1.2.2.trans hF.1, by omega, hnl⟩ (fun N n1 n2 n3 n4 => ?_)
        refine xv_istore (q := 49) rfl dX1_chain_47 rfl ?_
        refine xv_iload (q := 51) rfl dX1_chain_49 rfl ?_
        refine xv_if_eq (q := 54) (t := 67) rfl rfl dX1_chain_51 (fun h51 => ?_) (fun h51 => ?_)
        · have ea : a.1 = false := bIz h51
          rw [if_pos ea] at h
          cases h
          refine xv_iconst (v := nI 0) (q := 68) rfl dX1_chain_67 rfl ?_
          refine xv_zret (ty := .boolean) dX1_chain_68 rfl rfl ?_
          exact PQ.bad ea (fun k h1 h2 => (n1 k h1 h2).trans ((s1.1 k h1).trans (hJK k h1 h2))) n2 n3
        · have ea : a.1 = true := bIn h51
          rw [if_neg (by rw [ea]; decide)] at h
          obtain ⟨g1, g2, g3⟩ := n4 ea
          have q1 := hpos.2.2 ea
          have q2 := hpos.2.1
          have q3 := q1.2 (by omega)
          have q1 := q1.1
          simp at q1
          refine xv_iload (q := 56) rfl dX1_chain_54 rfl ?_
          refine xv_if_le (q := 59) (t := 69) rfl rfl dX1_chain_56 (fun h56 => ?_) (fun h56 => ?_)
          · exact absurd (nIle (b := 0) h56 (by omega) (by omega)) (by omega)
          · refine xv_aload_n (q := 60) rfl dX1_chain_59 rfl rfl ?_
            refine xv_iload_n (q := 61) rfl dX1_chain_60 rfl rfl ?_
            refine xv_cV1 (z := mX1_put) (q := 64) rfl dX1_chain_61 l_X1_59 gX1_put (hg.1 _ _ rfl) rfl rfl rfl (c_put1 (d := d + bdp op - 1) hg g1 (by omega) (cdo (tok tp n p))) (by omega) ?_
            refine xv_if_ne (q := 67) (t := 69) rfl rfl dX1_chain_64 (fun h64 => ?_) (fun h64 => ?_)
            · refine ih a.2.1 (m + 1) _ _ r _ _ _ (by omega) h n2.put n3.put (fun k h1 h2 => by rw [xi_off _ _ _ _ h1, xi_off _ _ _ _ h2, n1 k h1 h2, s1.1 k h1]; exact hJK k h1 h2) (((hF.stp s1).trans ⟨g1, g2, g3⟩ rfl).put (by rw [List.length_append]; omega)) ?_ hpos.2.1 (by omega)
              simp
              omega
            · exact absurd h64 (by decide)
    · have h77 : ¬ lvo (tok tp n p) = lv := fun q => h77 ((lvI_eq hlv).mpr q)
      rw [if_pos h77] at h
      cases h
      refine xv_iconst (v := nI 1) (q := 81) rfl dX1_chain_80 rfl ?_
      refine xv_zret (ty := .boolean) dX1_chain_81 rfl rfl ?_
      exact ⟨rfl, rfl, rfl, rfl, hJK, hT, hP, fun _ => hF⟩
theorem c_chain (hg : XG sh R) {F lv op p cl : Nat} {v : PV} {r : PR} (IH : ∀ g, g < F + 1 → PS3 E d sh R L tp n g) (hlv : lv < 4) (hop : op ≤ 5) (h : prs tp n (F + 1) 1 lv op p [] v = some r) (hS : PSt I tp n p cl) : XC E mX1_chain (d + bdp op + cdp lv) 0 0 [.ref 17, .int (nI lv), .int (nI op)] sh I R L (PQ r cl tp n sh I R L) := by
  obtain ⟨hT, hP, hc, hcp, hpn⟩ := id hS
  rw [prs_1] at h
  obtain ⟨a, ha, h⟩ := bnd h
  obtain ⟨f2, rfl⟩ : ∃ f2, F = f2 + 1 := by
    cases F with
    | zero => cases ha
    | succ f2 => exact ⟨f2, rfl⟩
  have hpos := prs_pos (f2 + 1) 0 lv op p [] v a hlv (fun _ => rfl) hpn ha
  refine XC.of (by decide) rfl rfl ?_
  refine xv_iconst (v := nI 0) (q := 1) rfl dX1_chain_0 rfl ?_
  refine xv_istore_n (q := 2) rfl dX1_chain_1 rfl rfl ?_
  refine xv_iconst (v := nI 0) (q := 3) rfl dX1_chain_2 rfl ?_
  refine xv_istore (q := 5) rfl dX1_chain_3 rfl ?_
  refine xv_iload (q := 7) rfl dX1_chain_5 rfl ?_
  refine xv_sipush (v := nI 160) (q := 10) rfl dX1_chain_7 rfl ?_
  refine xv_icmp_ge (q := 13) (t := 100) rfl rfl dX1_chain_10 (fun h10 => ?_) (fun h10 => ?_)
  · exact absurd (nIle h10 (by omega) (by omega)) (by omega)
  · refine c_item hg (IH f2 (by omega)) hlv hop ha hS (fun N n1 n2 n3 n4 => ?_)
    refine xv_istore (q := 49) rfl dX1_chain_47 rfl ?_
    refine xv_iload (q := 51) rfl dX1_chain_49 rfl ?_
    refine xv_if_eq (q := 54) (t := 67) rfl rfl dX1_chain_51 (fun h51 => ?_) (fun h51 => ?_)
    · have ea : a.1 = false := bIz h51
      rw [if_pos ea] at h
      cases h
      refine xv_iconst (v := nI 0) (q := 68) rfl dX1_chain_67 rfl ?_
      refine xv_zret (ty := .boolean) dX1_chain_68 rfl rfl ?_
      exact PQ.bad ea n1 n2 n3
    · have ea : a.1 = true := bIn h51
      rw [if_neg (by rw [ea]; decide)] at h
      have q1 := hpos.2.2 ea
      have q3 := q1.2 (by omega)
      have q1 := q1.1
      simp at q1
      refine xv_iload (q := 56) rfl dX1_chain_54 rfl ?_
      refine xv_if_le (q := 59) (t := 69) rfl rfl dX1_chain_56 (fun h56 => ?_) (fun h56 => ?_)
      · exact c_chain_loop hg (F := f2 + 1) (fun g hg2 => IH g (by omega)) hlv hop (f2 + 1) a.2.1 0 a.2.2.1 a.2.2.2 r N _ _ (Nat.le_refl _) h n2 n3 n1 (n4 ea) (by omega) hpos.2.1 (by omega)
      · exact absurd (by decide) h56
/-- the class's parser does as prs -/
theorem c_parse (hg : XG sh R) : ∀ f, PS3 E d sh R L tp n f := by
  intro f
  induction f using Nat.strongRecOn with
  | ind f IH =>
    intro tag lv op p cl v r J hlv hop h hS
    cases f with
    | zero => cases h
    | succ f =>
      refine ⟨fun e => ?_, fun e => ?_, fun e => ?_⟩
      · subst e; exact c_chain hg IH hlv hop h hS
      · subst e; exact c_perhapsNot hg (IH f (by omega)) hop h hS
      · subst e; exact c_single hg (IH f (by omega)) hop h hS
end PARSE3

def cdp (lv : Nat) : Nat := if lv = 0 then 5 else if lv = 1 then 4 else if lv = 2 then 2 else 1
def bdp (op : Nat) : Nat := 9 + 6 * (5 - op)
theorem bdp_s {op : Nat} (h : op < 5) : bdp op = bdp (op + 1) + 6 := by unfold bdp; omega
theorem bdp_9 (op : Nat) : 9 ≤ bdp op := by unfold bdp; omega
def PS3 (E : XE) (d : Nat) (sh : XSh) (R : XRf) (L : XL) (tp : Nat → Nat) (n f : Nat) : Prop := ∀ (tag lv op p cl : Nat) (v : PV) (r : PR) (J : XI), lv < 4 → op ≤ 5 → prs tp n f tag lv op p [] v = some r → PSt J tp n p cl →
  (tag = 1 → XC E mX1_chain (d + bdp op + cdp lv) 0 0 [.ref 17, .int (nI lv), .int (nI op)] sh J R L (PQ r cl tp n sh J R L)) ∧
  (tag = 3 → XC E mX1_perhapsNot (d + bdp op + 3) 0 0 [.ref 17, .int (nI op)] sh J R L (PQ r cl tp n sh J R L)) ∧
  (tag = 4 → XC E mX1_single (d + bdp op) 0 0 [.ref 17, .int (nI op)] sh J R L (PQ r cl tp n sh J R L))
section PARSE2
variable {E : XE} {d : Nat} {sh : XSh} {I : XI} {R : XRf} {L : XL} {tp : Nat → Nat} {n : Nat}
theorem bT {b : Bool} (h : ¬ b = false) : b = true := by cases b with | false => exact absurd rfl h | true => rfl
theorem PQ.bad {r : PR} {cl : Nat} {J K : XI} (e : r.1 = false) (h1 : ∀ k, k ≠ 17 → k ≠ 19 → K k = J k) (h2 : RdT K tp n) (h3 : RdP K tp n r.2.1) : PQ r cl tp n sh J R L (some (.int (nI 0))) sh K R L := ⟨by rw [e]; rfl, rfl, rfl, rfl, h1, h2, h3, fun q => absurd q (by rw [e]; decide)⟩
theorem c_single (hg : XG sh R) {f op p cl : Nat} {v : PV} {r : PR} (IH : PS3 E d sh R L tp n f) (hop : op ≤ 5) (h : prs tp n (f + 1) 4 0 op p [] v = some r) (hS : PSt I tp n p cl) : XC E mX1_single (d + bdp op) 0 0 [.ref 17, .int (nI op)] sh I R L (PQ r cl tp n sh I R L) := by
  obtain ⟨hT, hP, hc, hcp, hpn⟩ := id hS
  have htk := hT.lt p
  have hn160 := hT.2.1
  have hb9 := bdp_9 op
  have h0 := h
  rw [prs_4] at h
  refine XC.of (by decide) rfl rfl ?_
  refine xv_aload_n (q := 1) rfl dX1_single_0 rfl rfl ?_
  refine xv_geti (q := 4) rfl dX1_single_1 f_X1_39 (hg.1 _ _ rfl) ?_
  rw [hP.2.2.1]
  refine xv_iconst (v := nI 2) (q := 5) rfl dX1_single_4 rfl ?_
  refine xv_icmp_eq (q := 8) (t := 16) rfl rfl dX1_single_5 (fun h5 => ?_) (fun h5 => ?_)
  · have h5 : tok tp n p = 2 := nIe h5 (by omega) (by omega)
    refine xv_aload_n (q := 17) rfl dX1_single_16 rfl rfl ?_
    refine xv_geti (q := 20) rfl dX1_single_17 f_X1_39 (hg.1 _ _ rfl) ?_
    rw [hP.2.2.1]
    refine xv_iconst (v := nI 2) (q := 21) rfl dX1_single_20 rfl ?_
    refine xv_icmp_ne (q := 24) (t := 31) rfl rfl dX1_single_21 (fun h21 => ?_) (fun h21 => ?_)
    · exact absurd (by rw [h5]) h21
    · refine xv_aload_n (q := 25) rfl dX1_single_24 rfl rfl ?_
      refine xv_geti (q := 28) rfl dX1_single_25 f_X1_69 (hg.1 _ _ rfl) ?_
      rw [hP.2.2.2 (Or.inl h5)]
      refine xv_goto (t := 37) rfl dX1_single_28 ?_
      refine xv_istore_n (q := 38) rfl dX1_single_37 rfl rfl ?_
      have hng := nxt_gt (tp := tp) (n := n) (p := p) (by omega)
      have hnl := nxt_le (tp := tp) hpn
      refine xv_aload_n (q := 39) rfl dX1_single_38 rfl rfl ?_
      refine xv_rV0 (z := mX1_step) (q := 42) rfl dX1_single_39 l_X1_28 gX1_step (hg.1 _ _ rfl) rfl rfl rfl (c_step (d := d + bdp op - 7) hg hT (nxt_le hpn) hP.2.1) (by omega) ?_
      rintro _ _ K _ _ ⟨rfl, rfl, rfl, rfl, s1, s2⟩
      refine xv_aload_n (q := 43) rfl dX1_single_42 rfl rfl ?_
      refine xv_iload_n (q := 44) rfl dX1_single_43 rfl rfl ?_
      refine xv_cV1 (z := mX1_put) (q := 47) rfl dX1_single_44 l_X1_59 gX1_put (hg.1 _ _ rfl) rfl rfl rfl (c_put1 (d := d + bdp op - 1) hg (s1.2.2.trans hc) (by omega) _) (by omega) ?_
      refine xv_zret (ty := .boolean) dX1_single_47 rfl rfl ?_
      rw [if_pos h5] at h
      cases h
      exact ⟨rfl, rfl, rfl, rfl, fun k h1 h2 => by rw [xi_off _ _ _ _ h1, xi_off _ _ _ _ h2]; exact s1.1 k h1, (hT.mv s1).put, s2.put, fun _ => ((PFr.nil hc).stp s1).put rfl⟩
  · have h5 : ¬ tok tp n p = 2 := fun q => h5 (by rw [q])
    refine xv_aload_n (q := 9) rfl dX1_single_8 rfl rfl ?_
    refine xv_geti (q := 12) rfl dX1_single_9 f_X1_39 (hg.1 _ _ rfl) ?_
    rw [hP.2.2.1]
    refine xv_iconst (v := nI 3) (q := 13) rfl dX1_single_12 rfl ?_
    refine xv_icmp_ne (q := 16) (t := 48) rfl rfl dX1_single_13 (fun h13 => ?_) (fun h13 => ?_)
    · have h13 : ¬ tok tp n p = 3 := fun q => h13 (by rw [q])
      refine xv_aload_n (q := 49) rfl dX1_single_48 rfl rfl ?_
      refine xv_geti (q := 52) rfl dX1_single_49 f_X1_39 (hg.1 _ _ rfl) ?_
      rw [hP.2.2.1]
      refine xv_bipush (v := nI 45) (q := 54) rfl dX1_single_52 rfl ?_
      refine xv_icmp_eq (q := 57) (t := 66) rfl rfl dX1_single_54 (fun h54 => ?_) (fun h54 => ?_)
      · have h54 : tok tp n p = 45 := nIe h54 (by omega) (by omega)
        refine xv_iload_n (q := 67) rfl dX1_single_66 rfl rfl ?_
        refine xv_iconst (v := nI 5) (q := 68) rfl dX1_single_67 rfl ?_
        refine xv_icmp_lt (q := 71) (t := 73) rfl rfl dX1_single_68 (fun h68 => ?_) (fun h68 => ?_)
        · have h68 : op < 5 := nIlt h68 (by omega) (by omega)
          have hng := nxt_gt (tp := tp) (n := n) (p := p) (by omega)
          have hnl := nxt_le (tp := tp) hpn
          have hb6 := bdp_s h68
          refine xv_aload_n (q := 74) rfl dX1_single_73 rfl rfl ?_
          refine xv_geti (q := 77) rfl dX1_single_74 f_X1_39 (hg.1 _ _ rfl) ?_
          rw [hP.2.2.1]
          refine xv_bipush (v := nI 45) (q := 79) rfl dX1_single_77 rfl ?_
          refine xv_icmp_ne (q := 82) (t := 86) rfl rfl dX1_single_79 (fun h79 => ?_) (fun h79 => ?_)
          · exact absurd (by rw [h54]) h79
          · refine xv_iconst (v := nI 1) (q := 83) rfl dX1_single_82 rfl ?_
            refine xv_goto (t := 87) rfl dX1_single_83 ?_
            refine xv_istore_n (q := 88) rfl dX1_single_87 rfl rfl ?_
            refine xv_aload_n (q := 89) rfl dX1_single_88 rfl rfl ?_
            refine xv_rV0 (z := mX1_step) (q := 92) rfl dX1_single_89 l_X1_28 gX1_step (hg.1 _ _ rfl) rfl rfl rfl (c_step (d := d + bdp op - 7) hg hT (nxt_le hpn) hP.2.1) (by omega) ?_
            rintro _ _ K _ _ ⟨rfl, rfl, rfl, rfl, s1, s2⟩
            refine xv_iload_n (q := 93) rfl dX1_single_92 rfl rfl ?_
            refine xv_if_eq (q := 96) (t := 121) rfl rfl dX1_single_93 (fun h93 => ?_) (fun h93 => ?_)
            · exact absurd h93 (by decide)
            · rw [if_neg h5, if_neg h13, if_neg (by omega), if_pos h54] at h
              obtain ⟨a, ha, h⟩ := bnd h
              have hpos := prs_pos f 4 0 (op + 1) (nxt tp n p) [] v a (by omega) (fun _ => rfl) hnl ha
              refine xv_aload_n (q := 97) rfl dX1_single_96 rfl rfl ?_
              refine xv_iload_n (q := 98) rfl dX1_single_97 rfl rfl ?_
              refine xv_iconst (v := nI 1) (q := 99) rfl dX1_single_98 rfl ?_
              refine xv_iadd (q := 100) rfl dX1_single_99 ?_
              refine xv_as (w := nI (op + 1)) (nI_add _ _) ?_
              refine xv_rV1 (z := mX1_single) (q := 103) rfl dX1_single_100 l_X1_56 gX1_single (hg.1 _ _ rfl) rfl rfl rfl ((IH 4 0 (op + 1) (nxt tp n p) cl v a K (by omega) (by omega) ha ⟨hT.mv s1, s2, s1.2.2.trans hc, by omega, hnl⟩).2.2 rfl) (by omega) ?_
              rintro _ _ M _ _ ⟨rfl, rfl, rfl, rfl, m1, m2, m3, m4⟩
              refine xv_if_eq (q := 106) (t := 119) rfl rfl dX1_single_103 (fun h103 => ?_) (fun h103 => ?_)
              · refine xv_iconst (v := nI 0) (q := 120) rfl dX1_single_119 rfl ?_
                refine xv_zret (ty := .boolean) dX1_single_120 rfl rfl ?_
                have ea : a.1 = false := bIz h103
                rw [if_pos ea] at h
                cases h
                exact PQ.bad ea (fun k h1 h2 => (m1 k h1 h2).trans (s1.1 k h1)) m2 m3
              · have ea : a.1 = true := bIn h103
                rw [if_neg (by rw [ea]; decide)] at h
                cases h
                have q1 := (hpos.2.2 ea).1
                have q2 := hpos.2.1
                simp at q1
                obtain ⟨f1, f2, f3⟩ := m4 ea
                refine xv_aload_n (q := 107) rfl dX1_single_106 rfl rfl ?_
                refine xv_bipush (v := (-15)) (q := 109) rfl dX1_single_107 rfl ?_
                refine xv_cV1 (z := mX1_put) (q := 112) rfl dX1_single_109 l_X1_59 gX1_put (hg.1 _ _ rfl) rfl rfl rfl (c_put1 (d := d + bdp op - 1) hg f1 (by omega) (-15)) (by omega) ?_
                refine xv_if_eq (q := 115) (t := 119) rfl rfl dX1_single_112 (fun h112 => ?_) (fun h112 => ?_)
                · exact absurd h112 (by decide)
                · refine xv_iconst (v := nI 1) (q := 116) rfl dX1_single_115 rfl ?_
                  refine xv_goto (t := 120) rfl dX1_single_116 ?_
                  refine xv_zret (ty := .boolean) dX1_single_120 rfl rfl ?_
                  exact ⟨rfl, rfl, rfl, rfl, fun k h1 h2 => by rw [xi_off _ _ _ _ h1, xi_off _ _ _ _ h2, m1 k h1 h2]; exact s1.1 k h1, m2.put, m3.put, fun _ => (((PFr.nil hc).stp s1).trans ⟨f1, f2, f3⟩ rfl).put rfl⟩
        · have h68 : 5 ≤ op := nInlt h68 (by omega) (by omega)
          refine xv_iconst (v := nI 0) (q := 72) rfl dX1_single_71 rfl ?_
          refine xv_zret (ty := .boolean) dX1_single_72 rfl rfl ?_
          rw [if_neg h5, if_neg h13, if_pos (Or.inr h68)] at h
          cases h
          exact PQ.bad rfl (fun _ _ _ => rfl) hT hP
      · have h54 : ¬ tok tp n p = 45 := fun q => h54 (by rw [q])
        refine xv_aload_n (q := 58) rfl dX1_single_57 rfl rfl ?_
        refine xv_geti (q := 61) rfl dX1_single_58 f_X1_39 (hg.1 _ _ rfl) ?_
        rw [hP.2.2.1]
        refine xv_bipush (v := nI 40) (q := 63) rfl dX1_single_61 rfl ?_
        refine xv_icmp_ne (q := 66) (t := 71) rfl rfl dX1_single_63 (fun h63 => ?_) (fun h63 => ?_)
        · have h63 : ¬ tok tp n p = 40 := fun q => h63 (by rw [q])
          refine xv_iconst (v := nI 0) (q := 72) rfl dX1_single_71 rfl ?_
          refine xv_zret (ty := .boolean) dX1_single_72 rfl rfl ?_
          rw [if_neg h5, if_neg h13, if_pos (Or.inl ⟨h54, h63⟩)] at h
          cases h
          exact PQ.bad rfl (fun _ _ _ => rfl) hT hP
        · have h63 : tok tp n p = 40 := nIe h63 (by omega) (by omega)
          refine xv_iload_n (q := 67) rfl dX1_single_66 rfl rfl ?_
          refine xv_iconst (v := nI 5) (q := 68) rfl dX1_single_67 rfl ?_
          refine xv_icmp_lt (q := 71) (t := 73) rfl rfl dX1_single_68 (fun h68 => ?_) (fun h68 => ?_)
          · have h68 : op < 5 := nIlt h68 (by omega) (by omega)
            have hng := nxt_gt (tp := tp) (n := n) (p := p) (by omega)
            have hnl := nxt_le (tp := tp) hpn
            have hb6 := bdp_s h68
            refine xv_aload_n (q := 74) rfl dX1_single_73 rfl rfl ?_
            refine xv_geti (q := 77) rfl dX1_single_74 f_X1_39 (hg.1 _ _ rfl) ?_
            rw [hP.2.2.1]
            refine xv_bipush (v := nI 45) (q := 79) rfl dX1_single_77 rfl ?_
            refine xv_icmp_ne (q := 82) (t := 86) rfl rfl dX1_single_79 (fun h79 => ?_) (fun h79 => ?_)
            · refine xv_iconst (v := nI 0) (q := 87) rfl dX1_single_86 rfl ?_
              refine xv_istore_n (q := 88) rfl dX1_single_87 rfl rfl ?_
              refine xv_aload_n (q := 89) rfl dX1_single_88 rfl rfl ?_
              refine xv_rV0 (z := mX1_step) (q := 92) rfl dX1_single_89 l_X1_28 gX1_step (hg.1 _ _ rfl) rfl rfl rfl (c_step (d := d + bdp op - 7) hg hT (nxt_le hpn) hP.2.1) (by omega) ?_
              rintro _ _ K _ _ ⟨rfl, rfl, rfl, rfl, s1, s2⟩
              refine xv_iload_n (q := 93) rfl dX1_single_92 rfl rfl ?_
              refine xv_if_eq (q := 96) (t := 121) rfl rfl dX1_single_93 (fun h93 => ?_) (fun h93 => ?_)
              · rw [if_neg h5, if_neg h13, if_neg (by omega), if_neg h54] at h
                obtain ⟨a, ha, h⟩ := bnd h
                have hpos := prs_pos f 1 0 (op + 1) (nxt tp n p) [] v a (by omega) (fun _ => rfl) hnl ha
                refine xv_aload_n (q := 122) rfl dX1_single_121 rfl rfl ?_
                refine xv_iconst (v := nI 0) (q := 123) rfl dX1_single_122 rfl ?_
                refine xv_iload_n (q := 124) rfl dX1_single_123 rfl rfl ?_
                refine xv_iconst (v := nI 1) (q := 125) rfl dX1_single_124 rfl ?_
                refine xv_iadd (q := 126) rfl dX1_single_125 ?_
                refine xv_as (w := nI (op + 1)) (nI_add _ _) ?_
                refine xv_rV2 (z := mX1_chain) (q := 129) rfl dX1_single_126 l_X1_35 gX1_chain (hg.1 _ _ rfl) rfl rfl rfl ((IH 1 0 (op + 1) (nxt tp n p) cl v a K (by omega) (by omega) ha ⟨hT.mv s1, s2, s1.2.2.trans hc, by omega, hnl⟩).1 rfl) (by show d + bdp (op + 1) + 5 + 1 ≤ _; omega) ?_
                rintro _ _ M _ _ ⟨rfl, rfl, rfl, rfl, m1, m2, m3, m4⟩
                refine xv_if_eq (q := 132) (t := 141) rfl rfl dX1_single_129 (fun h129 => ?_) (fun h129 => ?_)
                · refine xv_iconst (v := nI 0) (q := 142) rfl dX1_single_141 rfl ?_
                  refine xv_zret (ty := .boolean) dX1_single_142 rfl rfl ?_
                  have ea : a.1 = false := bIz h129
                  rw [if_pos ea] at h
                  cases h
                  exact PQ.bad ea (fun k h1 h2 => (m1 k h1 h2).trans (s1.1 k h1)) m2 m3
                · have ea : a.1 = true := bIn h129
                  rw [if_neg (by rw [ea]; decide)] at h
                  obtain ⟨f1, f2, f3⟩ := m4 ea
                  have htk2 := hT.lt a.2.1
                  refine xv_aload_n (q := 133) rfl dX1_single_132 rfl rfl ?_
                  refine xv_geti (q := 136) rfl dX1_single_133 f_X1_39 (hg.1 _ _ rfl) ?_
                  rw [m3.2.2.1]
                  refine xv_bipush (v := nI 41) (q := 138) rfl dX1_single_136 rfl ?_
                  refine xv_icmp_eq (q := 141) (t := 143) rfl rfl dX1_single_138 (fun h138 => ?_) (fun h138 => ?_)
                  · have h138 : tok tp n a.2.1 = 41 := nIe h138 (by omega) (by omega)
                    rw [if_pos h138] at h
                    cases h
                    refine xv_aload_n (q := 144) rfl dX1_single_143 rfl rfl ?_
                    refine xv_rV0 (z := mX1_step) (q := 147) rfl dX1_single_144 l_X1_28 gX1_step (hg.1 _ _ rfl) rfl rfl rfl (c_step (d := d + bdp op - 7) hg m2 (nxt_le hpos.2.1) m3.2.1) (by omega) ?_
                    rintro _ _ N _ _ ⟨rfl, rfl, rfl, rfl, n1, n2⟩
                    refine xv_iconst (v := nI 1) (q := 148) rfl dX1_single_147 rfl ?_
                    refine xv_zret (ty := .boolean) dX1_single_148 rfl rfl ?_
                    exact ⟨rfl, rfl, rfl, rfl, fun k h1 h2 => (n1.1 k h1).trans ((m1 k h1 h2).trans (s1.1 k h1)), m2.mv n1, n2, fun _ => by have := (((PFr.nil hc).stp s1).trans ⟨f1, f2, f3⟩ rfl).stp n1; exact this⟩
                  · have h138 : ¬ tok tp n a.2.1 = 41 := fun q => h138 (by rw [q])
                    rw [if_neg h138] at h
                    cases h
                    refine xv_iconst (v := nI 0) (q := 142) rfl dX1_single_141 rfl ?_
                    refine xv_zret (ty := .boolean) dX1_single_142 rfl rfl ?_
                    exact PQ.bad rfl (fun k h1 h2 => (m1 k h1 h2).trans (s1.1 k h1)) m2 m3
              · exact absurd rfl h93
            · exact absurd (nIe h79 (by omega) (by omega)) h54
          · have h68 : 5 ≤ op := nInlt h68 (by omega) (by omega)
            refine xv_iconst (v := nI 0) (q := 72) rfl dX1_single_71 rfl ?_
            refine xv_zret (ty := .boolean) dX1_single_72 rfl rfl ?_
            rw [if_neg h5, if_neg h13, if_pos (Or.inr h68)] at h
            cases h
            exact PQ.bad rfl (fun _ _ _ => rfl) hT hP
    · have h13 : tok tp n p = 3 := nIe h13 (by omega) (by omega)
      refine xv_aload_n (q := 17) rfl dX1_single_16 rfl rfl ?_
      refine xv_geti (q := 20) rfl dX1_single_17 f_X1_39 (hg.1 _ _ rfl) ?_
      rw [hP.2.2.1]
      refine xv_iconst (v := nI 2) (q := 21) rfl dX1_single_20 rfl ?_
      refine xv_icmp_ne (q := 24) (t := 31) rfl rfl dX1_single_21 (fun h21 => ?_) (fun h21 => ?_)
      · refine xv_iconst (v := (-1)) (q := 32) rfl dX1_single_31 rfl ?_
        refine xv_aload_n (q := 33) rfl dX1_single_32 rfl rfl ?_
        refine xv_geti (q := 36) rfl dX1_single_33 f_X1_69 (hg.1 _ _ rfl) ?_
        rw [hP.2.2.2 (Or.inr h13)]
        refine xv_isub (q := 37) rfl dX1_single_36 ?_
        refine xv_istore_n (q := 38) rfl dX1_single_37 rfl rfl ?_
        have hng := nxt_gt (tp := tp) (n := n) (p := p) (by omega)
        have hnl := nxt_le (tp := tp) hpn
        refine xv_aload_n (q := 39) rfl dX1_single_38 rfl rfl ?_
        refine xv_rV0 (z := mX1_step) (q := 42) rfl dX1_single_39 l_X1_28 gX1_step (hg.1 _ _ rfl) rfl rfl rfl (c_step (d := d + bdp op - 7) hg hT (nxt_le hpn) hP.2.1) (by omega) ?_
        rintro _ _ K _ _ ⟨rfl, rfl, rfl, rfl, s1, s2⟩
        refine xv_aload_n (q := 43) rfl dX1_single_42 rfl rfl ?_
        refine xv_iload_n (q := 44) rfl dX1_single_43 rfl rfl ?_
        refine xv_cV1 (z := mX1_put) (q := 47) rfl dX1_single_44 l_X1_59 gX1_put (hg.1 _ _ rfl) rfl rfl rfl (c_put1 (d := d + bdp op - 1) hg (s1.2.2.trans hc) (by omega) _) (by omega) ?_
        refine xv_zret (ty := .boolean) dX1_single_47 rfl rfl ?_
        rw [if_neg h5, if_pos h13] at h
        cases h
        exact ⟨rfl, rfl, rfl, rfl, fun k h1 h2 => by rw [xi_off _ _ _ _ h1, xi_off _ _ _ _ h2]; exact s1.1 k h1, (hT.mv s1).put, s2.put, fun _ => ((PFr.nil hc).stp s1).put rfl⟩
      · exact absurd (nIe h21 (by omega) (by omega)) h5
end PARSE2

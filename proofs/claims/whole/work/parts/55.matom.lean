/-! the model: an atom -/
theorem wop_m13 (nm : Nat → Int32) (a b : Int32) : wop nm (-13) a b = a * b := by unfold wop; simp
theorem wop_m12 (nm : Nat → Int32) (a b : Int32) : wop nm (-12) a b = a - b := by unfold wop; simp
theorem wop_m11 (nm : Nat → Int32) (a b : Int32) : wop nm (-11) a b = a + b := by unfold wop; simp
theorem wop_m10 (nm : Nat → Int32) (a b : Int32) : wop nm (-10) a b = bI (decide (a = b)) := by unfold wop; simp
theorem wop_m9 (nm : Nat → Int32) (a b : Int32) : wop nm (-9) a b = bI (decide (a < b)) := by unfold wop; simp
theorem wop_m8 (nm : Nat → Int32) (a b : Int32) : wop nm (-8) a b = bI (!decide (a = 0) && !decide (b = 0)) := by unfold wop; simp
theorem wop_m7 (nm : Nat → Int32) (a b : Int32) : wop nm (-7) a b = bI (!decide (a = 0) || !decide (b = 0)) := by unfold wop; simp
theorem wop_m14 (nm : Nat → Int32) (a b : Int32) : wop nm (-14) a b = bI (decide (a = 0)) := by unfold wop; simp
theorem wop_m15 (nm : Nat → Int32) (a b : Int32) : wop nm (-15) a b = -a := by unfold wop; simp
theorem MG.mt {J : XI} {K : XL} {fr n : Nat} {tp : Nat → Nat} {nm : Nat → Int32} {p op : Nat} (h : MG J K fr tp n nm p op) : MT J fr tp n := h.1
/-- left open otherwise -/
theorem MG.op {J : XI} {K : XL} {fr n : Nat} {tp : Nat → Nat} {nm : Nat → Int32} {p op q : Nat} (h : MG J K fr tp n nm p op) : MG (xi J 61 28 (nI q)) K fr tp n nm p q := by
  obtain ⟨hT, zhp, ⟨h26, h24, h25, zh2, zh3⟩, h29, h28, hn⟩ := h
  refine ⟨hT.mv (FPa.xi (by decide) (by decide)), zhp, ⟨?_, fun z => ?_, ?_, zh2, zh3⟩, ?_, xi_eq _ _ _ _, fun j zhj => ?_⟩
  · rw [xi_ne _ _ _ _ (by decide)]; exact h26
  · rw [xi_ne _ _ _ _ (by decide)]; exact h24 z
  · rw [xi_ne _ _ _ _ (by decide)]; exact h25
  · rw [xi_ne _ _ _ _ (by decide)]; exact h29
  · rw [xi_ne _ _ _ _ (by omega)]; exact hn j zhj
theorem BD.op {J : XI} {q : Nat} {x : Int32} (h : BD J q) : BD (xi J 61 28 x) q := ⟨(xi_ne _ _ _ _ (by decide)).trans h.1, (xi_ne _ _ _ _ (by decide)).trans h.2⟩
theorem fpa_op {I J : XI} {x : Int32} (h : FPa I J) : FPa I (xi J 61 28 x) := h.trans (.xi (by decide) (by decide))
/-- what a piece of the reader answers -/
def QPm (fr : Nat) (tp : Nat → Nat) (n : Nat) (nm : Nat → Int32) (op : Nat) (r : PR) (sh : XSh) (I : XI) (R : XRf) (L : XL) : XQ := fun v sh' J R' L' => ∃ x, v = some (.int x) ∧ sh' = sh ∧ R' = R ∧ FPa I J ∧ FL L L' ∧ (r.1 = true → x = r.2.2.2 nm ∧ MG J L' fr tp n nm r.2.1 op) ∧ (r.1 = false → BD J (sta tp n r.2.1))
def QAd (fr : Nat) (tp : Nat → Nat) (n : Nat) (nm : Nat → Int32) (op q : Nat) (sh : XSh) (I : XI) (R : XRf) (L : XL) : XQ := fun v sh' J R' L' => v = none ∧ sh' = sh ∧ R' = R ∧ FPa I J ∧ FL L L' ∧ MG J L' fr tp n nm q op
def QOp (fr : Nat) (tp : Nat → Nat) (n : Nat) (nm : Nat → Int32) (op p : Nat) (sh : XSh) (I : XI) (R : XRf) (L : XL) : XQ := fun v sh' J R' L' => ∃ b : Bool, v = some (.int (bI b)) ∧ sh' = sh ∧ R' = R ∧ FPa I J ∧ FL L L' ∧ (b = true → op < 5 ∧ MG J L' fr tp n nm (nxt tp n p) (op + 1)) ∧ (b = false → op = 5 ∧ BD J (sta tp n p))
def dA (d op : Nat) : Nat := d + 6 + 6 * (5 - op)
section MATOM
variable {E : XE} {d : Nat} {sh : XSh} {I : XI} {R : XRf} {L : XL} {fr n : Nat} {tp : Nat → Nat} {nm : Nat → Int32} {p op : Nat}
theorem m_adv (hg : XG sh R) (hM : MG I L fr tp n nm p op) (zh4 : tkm tp n p ≠ 4) : XC E mX7_next (d + 1) 0 0 [.ref 61] sh I R L (QAd fr tp n nm op (nxt tp n p) sh I R L) := by
  obtain ⟨hT, zhp, ⟨h26, h24, h25, zh2, zh3⟩, h29, h28, hn⟩ := hM
  refine (m_go (d := d) hg hT (nxt_le zhp) (h24 zh4)).imp ?_
  rintro _ _ J _ L' ⟨rfl, rfl, rfl, hR, hF1, hF2, hL⟩
  have hF : FNx I J := ⟨hF1, hF2⟩
  exact ⟨rfl, rfl, rfl, hF.fpa, hL, hT.mv hF.fpa, nxt_le zhp, hR, (hF2 29 (by decide)).trans h29, (hF2 28 (by decide)).trans h28, fun j zhj => (hF2 _ (by omega)).trans (hn j zhj)⟩
theorem tok_m {c : Nat} (h : tok tp n p = c) (hc : 2 ≤ c) : tkm tp n p ≠ 4 := fun z => by
  unfold tkm at z
  unfold tok at h
  split at z
  · cases z
  · split at z
    · cases z
    · split at z
      · split at z
        next zh1 zh2 zh3 zh4 => rw [if_neg zh1, if_neg zh2, if_pos zh3, if_pos zh4] at h; omega
        next => cases z
      · split at z
        next => cases z
        next zh1 zh2 zh3 zh4 => rw [if_neg zh1, if_neg zh2, if_neg zh3, if_neg zh4] at h; omega
theorem m_opens (hg : XG sh R) (hM : MG I L fr tp n nm p op) (hop : op ≤ 5) (zh4 : tkm tp n p ≠ 4) : XC E mX7_opens (d + 2) 0 0 [.ref 61] sh I R L (QOp fr tp n nm op p sh I R L) := by
  obtain ⟨gT, gp, gR, g29, g28, gn⟩ := id hM
  refine XC.of (by decide) rfl rfl ?_
  refine xv_aload_n (q := 1) rfl dX7_opens_0 rfl rfl ?_
  refine xv_geti (q := 4) rfl dX7_opens_1 f_X7_176 (hg.1 _ _ rfl) ?_
  rw [g28]
  refine xv_iconst (v := nI 5) (q := 5) rfl dX7_opens_4 rfl ?_
  refine xv_icmp_ne (q := 8) (t := 14) rfl rfl dX7_opens_5 (fun zh5 => ?_) (fun zh5 => ?_)
  · have zh5 : ¬ op = 5 := fun z => zh5 (by rw [z])
    refine xv_aload_n (q := 15) rfl dX7_opens_14 rfl rfl ?_
    refine xv_dup (q := 16) rfl dX7_opens_15 rfl ?_
    refine xv_geti (q := 19) rfl dX7_opens_16 f_X7_176 (hg.1 _ _ rfl) ?_
    rw [g28]
    refine xv_iconst (v := nI 1) (q := 20) rfl dX7_opens_19 rfl ?_
    refine xv_iadd (q := 21) rfl dX7_opens_20 ?_
    refine xv_as (w := nI (op + 1)) (nI_add _ _) ?_
    refine xv_puti (q := 24) rfl dX7_opens_21 f_X7_176 (fun h => by cases h) (hg.1 _ _ rfl) ?_
    refine xv_aload_n (q := 25) rfl dX7_opens_24 rfl rfl ?_
    refine xv_rV0 (z := mX7_next) (q := 28) rfl dX7_opens_25 l_X7_182 gX7_next (hg.1 _ _ rfl) rfl rfl rfl (m_adv (d := d) hg (hM.op (q := op + 1)) zh4) (by omega) ?_
    rintro _ _ J1 _ L1 ⟨rfl, rfl, rfl, hF1, hL1, hM1⟩
    refine xv_iconst (v := nI 1) (q := 29) rfl dX7_opens_28 rfl ?_
    refine xv_zret (ty := .boolean) dX7_opens_29 rfl rfl ?_
    exact ⟨true, rfl, rfl, rfl, (fpa_op (x := nI (op + 1)) .rf).trans hF1, hL1, fun _ => ⟨by omega, hM1⟩, (fun z => by cases z)⟩
  · have zh5 : op = 5 := (nI_eq (b := 5) (by omega) (by decide)).mp zh5
    refine xv_aload_n (q := 9) rfl dX7_opens_8 rfl rfl ?_
    refine xv_rV0 (z := mX7_fail) (q := 12) rfl dX7_opens_9 l_X7_179 gX7_fail (hg.1 _ _ rfl) rfl rfl rfl (m_fail (d := d) hg gR.1) (by omega) ?_
    rintro _ _ J1 _ _ ⟨rfl, rfl, rfl, rfl, hF1, hB, -⟩
    refine xv_iconst (v := nI 0) (q := 13) rfl dX7_opens_12 rfl ?_
    refine xv_zret (ty := .boolean) dX7_opens_13 rfl rfl ?_
    exact ⟨false, rfl, rfl, rfl, hF1, .rf, (fun z => by cases z), fun _ => ⟨zh5, hB g29⟩⟩
theorem m_name (hg : XG sh R) (hM : MG I L fr tp n nm p op) (zh1 : tkm tp n p = 1) : XC E mX7_name (d + 3) 0 0 [.ref 61] sh I R L (fun v sh' J R' L' => ∃ x, v = some (.int x) ∧ sh' = sh ∧ R' = R ∧ FPa I J ∧ FL L L' ∧ (tok tp n p = 3 → x = nm (vlu tp n p) ∧ MG J L' fr tp n nm p op) ∧ (tok tp n p ≠ 3 → BD J (sta tp n p))) := by
  obtain ⟨gT, gp, gR, g29, g28, gn⟩ := id hM
  have hv := (vlu_1 zh1).1
  refine XC.of (by decide) rfl rfl ?_
  refine xv_aload_n (q := 1) rfl dX7_name_0 rfl rfl ?_
  refine xv_bipush (v := nI 114) (q := 3) rfl dX7_name_1 rfl ?_
  refine xv_bipush (v := nI 105) (q := 5) rfl dX7_name_3 rfl ?_
  refine xv_bipush (v := nI 100) (q := 7) rfl dX7_name_5 rfl ?_
  refine xv_bipush (v := nI 101) (q := 9) rfl dX7_name_7 rfl ?_
  refine xv_bipush (v := nI 114) (q := 11) rfl dX7_name_9 rfl ?_
  refine xv_iconst (v := nI 0) (q := 12) rfl dX7_name_11 rfl ?_
  refine xv_iconst (v := nI 0) (q := 13) rfl dX7_name_12 rfl ?_
  refine xv_iconst (v := nI 0) (q := 14) rfl dX7_name_13 rfl ?_
  refine xv_cV8 (z := mX7_isWord) (q := 17) rfl dX7_name_14 l_X7_185 gX7_isWord (hg.1 _ _ rfl) rfl rfl rfl (m_isW (d := d) (w := 0) hg hM (by decide)) (by omega) ?_
  refine xv_if_eq (q := 20) (t := 25) rfl rfl dX7_name_17 (fun h17 => ?_) (fun h17 => ?_)
  · have h17 : ¬ kno tp (sta tp n p) (wen tp n (sta tp n p)) 12 = 0 := fun z => by
      have := bIz h17
      unfold tkw at this
      rw [decide_eq_true zh1, decide_eq_true z] at this
      cases this
    refine xv_aload_n (q := 26) rfl dX7_name_25 rfl rfl ?_
    refine xv_bipush (v := nI 102) (q := 28) rfl dX7_name_26 rfl ?_
    refine xv_bipush (v := nI 108) (q := 30) rfl dX7_name_28 rfl ?_
    refine xv_bipush (v := nI 111) (q := 32) rfl dX7_name_30 rfl ?_
    refine xv_bipush (v := nI 111) (q := 34) rfl dX7_name_32 rfl ?_
    refine xv_bipush (v := nI 114) (q := 36) rfl dX7_name_34 rfl ?_
    refine xv_iconst (v := nI 0) (q := 37) rfl dX7_name_36 rfl ?_
    refine xv_iconst (v := nI 0) (q := 38) rfl dX7_name_37 rfl ?_
    refine xv_iconst (v := nI 0) (q := 39) rfl dX7_name_38 rfl ?_
    refine xv_cV8 (z := mX7_isWord) (q := 42) rfl dX7_name_39 l_X7_185 gX7_isWord (hg.1 _ _ rfl) rfl rfl rfl (m_isW (d := d) (w := 1) hg hM (by decide)) (by omega) ?_
    refine xv_if_eq (q := 45) (t := 50) rfl rfl dX7_name_42 (fun h42 => ?_) (fun h42 => ?_)
    · have h42 : ¬ kno tp (sta tp n p) (wen tp n (sta tp n p)) 12 = 1 := fun z => by
        have := bIz h42
        unfold tkw at this
        rw [decide_eq_true zh1, decide_eq_true z] at this
        cases this
      refine xv_aload_n (q := 51) rfl dX7_name_50 rfl rfl ?_
      refine xv_bipush (v := nI 115) (q := 53) rfl dX7_name_51 rfl ?_
      refine xv_bipush (v := nI 105) (q := 55) rfl dX7_name_53 rfl ?_
      refine xv_bipush (v := nI 122) (q := 57) rfl dX7_name_55 rfl ?_
      refine xv_bipush (v := nI 101) (q := 59) rfl dX7_name_57 rfl ?_
      refine xv_iconst (v := nI 0) (q := 60) rfl dX7_name_59 rfl ?_
      refine xv_iconst (v := nI 0) (q := 61) rfl dX7_name_60 rfl ?_
      refine xv_iconst (v := nI 0) (q := 62) rfl dX7_name_61 rfl ?_
      refine xv_iconst (v := nI 0) (q := 63) rfl dX7_name_62 rfl ?_
      refine xv_cV8 (z := mX7_isWord) (q := 66) rfl dX7_name_63 l_X7_185 gX7_isWord (hg.1 _ _ rfl) rfl rfl rfl (m_isW (d := d) (w := 2) hg hM (by decide)) (by omega) ?_
      refine xv_if_eq (q := 69) (t := 74) rfl rfl dX7_name_66 (fun h66 => ?_) (fun h66 => ?_)
      · have h66 : ¬ kno tp (sta tp n p) (wen tp n (sta tp n p)) 12 = 2 := fun z => by
          have := bIz h66
          unfold tkw at this
          rw [decide_eq_true zh1, decide_eq_true z] at this
          cases this
        refine xv_aload_n (q := 75) rfl dX7_name_74 rfl rfl ?_
        refine xv_bipush (v := nI 114) (q := 77) rfl dX7_name_75 rfl ?_
        refine xv_bipush (v := nI 111) (q := 79) rfl dX7_name_77 rfl ?_
        refine xv_bipush (v := nI 119) (q := 81) rfl dX7_name_79 rfl ?_
        refine xv_iconst (v := nI 0) (q := 82) rfl dX7_name_81 rfl ?_
        refine xv_iconst (v := nI 0) (q := 83) rfl dX7_name_82 rfl ?_
        refine xv_iconst (v := nI 0) (q := 84) rfl dX7_name_83 rfl ?_
        refine xv_iconst (v := nI 0) (q := 85) rfl dX7_name_84 rfl ?_
        refine xv_iconst (v := nI 0) (q := 86) rfl dX7_name_85 rfl ?_
        refine xv_cV8 (z := mX7_isWord) (q := 89) rfl dX7_name_86 l_X7_185 gX7_isWord (hg.1 _ _ rfl) rfl rfl rfl (m_isW (d := d) (w := 3) hg hM (by decide)) (by omega) ?_
        refine xv_if_eq (q := 92) (t := 97) rfl rfl dX7_name_89 (fun h89 => ?_) (fun h89 => ?_)
        · have h89 : ¬ kno tp (sta tp n p) (wen tp n (sta tp n p)) 12 = 3 := fun z => by
            have := bIz h89
            unfold tkw at this
            rw [decide_eq_true zh1, decide_eq_true z] at this
            cases this
          refine xv_aload_n (q := 98) rfl dX7_name_97 rfl rfl ?_
          refine xv_bipush (v := nI 110) (q := 100) rfl dX7_name_98 rfl ?_
          refine xv_bipush (v := nI 117) (q := 102) rfl dX7_name_100 rfl ?_
          refine xv_bipush (v := nI 109) (q := 104) rfl dX7_name_102 rfl ?_
          refine xv_bipush (v := nI 98) (q := 106) rfl dX7_name_104 rfl ?_
          refine xv_bipush (v := nI 101) (q := 108) rfl dX7_name_106 rfl ?_
          refine xv_bipush (v := nI 114) (q := 110) rfl dX7_name_108 rfl ?_
          refine xv_iconst (v := nI 0) (q := 111) rfl dX7_name_110 rfl ?_
          refine xv_iconst (v := nI 0) (q := 112) rfl dX7_name_111 rfl ?_
          refine xv_cV8 (z := mX7_isWord) (q := 115) rfl dX7_name_112 l_X7_185 gX7_isWord (hg.1 _ _ rfl) rfl rfl rfl (m_isW (d := d) (w := 4) hg hM (by decide)) (by omega) ?_
          refine xv_if_eq (q := 118) (t := 123) rfl rfl dX7_name_115 (fun h115 => ?_) (fun h115 => ?_)
          · have h115 : ¬ kno tp (sta tp n p) (wen tp n (sta tp n p)) 12 = 4 := fun z => by
              have := bIz h115
              unfold tkw at this
              rw [decide_eq_true zh1, decide_eq_true z] at this
              cases this
            refine xv_aload_n (q := 124) rfl dX7_name_123 rfl rfl ?_
            refine xv_bipush (v := nI 105) (q := 126) rfl dX7_name_124 rfl ?_
            refine xv_bipush (v := nI 110) (q := 128) rfl dX7_name_126 rfl ?_
            refine xv_bipush (v := nI 115) (q := 130) rfl dX7_name_128 rfl ?_
            refine xv_bipush (v := nI 105) (q := 132) rfl dX7_name_130 rfl ?_
            refine xv_bipush (v := nI 100) (q := 134) rfl dX7_name_132 rfl ?_
            refine xv_bipush (v := nI 101) (q := 136) rfl dX7_name_134 rfl ?_
            refine xv_iconst (v := nI 0) (q := 137) rfl dX7_name_136 rfl ?_
            refine xv_iconst (v := nI 0) (q := 138) rfl dX7_name_137 rfl ?_
            refine xv_cV8 (z := mX7_isWord) (q := 141) rfl dX7_name_138 l_X7_185 gX7_isWord (hg.1 _ _ rfl) rfl rfl rfl (m_isW (d := d) (w := 5) hg hM (by decide)) (by omega) ?_
            refine xv_if_eq (q := 144) (t := 149) rfl rfl dX7_name_141 (fun h141 => ?_) (fun h141 => ?_)
            · have h141 : ¬ kno tp (sta tp n p) (wen tp n (sta tp n p)) 12 = 5 := fun z => by
                have := bIz h141
                unfold tkw at this
                rw [decide_eq_true zh1, decide_eq_true z] at this
                cases this
              refine xv_aload_n (q := 150) rfl dX7_name_149 rfl rfl ?_
              refine xv_rV0 (z := mX7_fail) (q := 153) rfl dX7_name_150 l_X7_179 gX7_fail (hg.1 _ _ rfl) rfl rfl rfl (m_fail (d := d) hg gR.1) (by omega) ?_
              rintro _ _ J1 _ _ ⟨rfl, rfl, rfl, rfl, hF1, hB, -⟩
              refine xv_iconst (v := nI 0) (q := 154) rfl dX7_name_153 rfl ?_
              refine xv_iret dX7_name_154 rfl ?_
              exact ⟨_, rfl, rfl, rfl, hF1, .rf, (fun z => by
                have := (tkm_3.mp z).2
                omega), fun _ => hB g29⟩
            · have h141 := bIn h141
              unfold tkw at h141
              rw [Bool.and_eq_true_iff, decide_eq_true_iff, decide_eq_true_iff] at h141
              refine xv_aload_n (q := 145) rfl dX7_name_144 rfl rfl ?_
              refine xv_geti (q := 148) rfl dX7_name_145 f_X7_204 (hg.1 _ _ rfl) ?_
              rw [show I 61 21 = nm 5 from gn 5 (by decide)]
              refine xv_iret dX7_name_148 rfl ?_
              exact ⟨_, rfl, rfl, rfl, .rf, .rf, fun _ => ⟨by rw [hv, h141.2], hM⟩, fun z => absurd (tkm_3.mpr ⟨zh1, by rw [h141.2]; decide⟩) z⟩
          · have h115 := bIn h115
            unfold tkw at h115
            rw [Bool.and_eq_true_iff, decide_eq_true_iff, decide_eq_true_iff] at h115
            refine xv_aload_n (q := 119) rfl dX7_name_118 rfl rfl ?_
            refine xv_geti (q := 122) rfl dX7_name_119 f_X7_201 (hg.1 _ _ rfl) ?_
            rw [show I 61 20 = nm 4 from gn 4 (by decide)]
            refine xv_iret dX7_name_122 rfl ?_
            exact ⟨_, rfl, rfl, rfl, .rf, .rf, fun _ => ⟨by rw [hv, h115.2], hM⟩, fun z => absurd (tkm_3.mpr ⟨zh1, by rw [h115.2]; decide⟩) z⟩
        · have h89 := bIn h89
          unfold tkw at h89
          rw [Bool.and_eq_true_iff, decide_eq_true_iff, decide_eq_true_iff] at h89
          refine xv_aload_n (q := 93) rfl dX7_name_92 rfl rfl ?_
          refine xv_geti (q := 96) rfl dX7_name_93 f_X7_198 (hg.1 _ _ rfl) ?_
          rw [show I 61 19 = nm 3 from gn 3 (by decide)]
          refine xv_iret dX7_name_96 rfl ?_
          exact ⟨_, rfl, rfl, rfl, .rf, .rf, fun _ => ⟨by rw [hv, h89.2], hM⟩, fun z => absurd (tkm_3.mpr ⟨zh1, by rw [h89.2]; decide⟩) z⟩
      · have h66 := bIn h66
        unfold tkw at h66
        rw [Bool.and_eq_true_iff, decide_eq_true_iff, decide_eq_true_iff] at h66
        refine xv_aload_n (q := 70) rfl dX7_name_69 rfl rfl ?_
        refine xv_geti (q := 73) rfl dX7_name_70 f_X7_195 (hg.1 _ _ rfl) ?_
        rw [show I 61 18 = nm 2 from gn 2 (by decide)]
        refine xv_iret dX7_name_73 rfl ?_
        exact ⟨_, rfl, rfl, rfl, .rf, .rf, fun _ => ⟨by rw [hv, h66.2], hM⟩, fun z => absurd (tkm_3.mpr ⟨zh1, by rw [h66.2]; decide⟩) z⟩
    · have h42 := bIn h42
      unfold tkw at h42
      rw [Bool.and_eq_true_iff, decide_eq_true_iff, decide_eq_true_iff] at h42
      refine xv_aload_n (q := 46) rfl dX7_name_45 rfl rfl ?_
      refine xv_geti (q := 49) rfl dX7_name_46 f_X7_192 (hg.1 _ _ rfl) ?_
      rw [show I 61 17 = nm 1 from gn 1 (by decide)]
      refine xv_iret dX7_name_49 rfl ?_
      exact ⟨_, rfl, rfl, rfl, .rf, .rf, fun _ => ⟨by rw [hv, h42.2], hM⟩, fun z => absurd (tkm_3.mpr ⟨zh1, by rw [h42.2]; decide⟩) z⟩
  · have h17 := bIn h17
    unfold tkw at h17
    rw [Bool.and_eq_true_iff, decide_eq_true_iff, decide_eq_true_iff] at h17
    refine xv_aload_n (q := 21) rfl dX7_name_20 rfl rfl ?_
    refine xv_geti (q := 24) rfl dX7_name_21 f_X7_189 (hg.1 _ _ rfl) ?_
    rw [show I 61 16 = nm 0 from gn 0 (by decide)]
    refine xv_iret dX7_name_24 rfl ?_
    exact ⟨_, rfl, rfl, rfl, .rf, .rf, fun _ => ⟨by rw [hv, h17.2], hM⟩, fun z => absurd (tkm_3.mpr ⟨zh1, by rw [h17.2]; decide⟩) z⟩
/-- what is shown of the reader's pieces with this much room -/
def PSM (E : XE) (d : Nat) (sh : XSh) (R : XRf) (fr : Nat) (tp : Nat → Nat) (n : Nat) (nm : Nat → Int32) (f : Nat) : Prop := ∀ (op p : Nat) (J : XI) (K : XL) (sg : List Int32) (v : PV) (r : PR), op ≤ 5 → MG J K fr tp n nm p op →
  (prs tp n f 4 0 op p [] v = some r → XC E mX7_atom (dA d op) 0 0 [.ref 61] sh J R K (QPm fr tp n nm op r sh J R K)) ∧
  (prs tp n f 3 0 op p [] v = some r → XC E mX7_not (dA d op + 3) 0 0 [.ref 61] sh J R K (QPm fr tp n nm op r sh J R K)) ∧
  (prs tp n f 1 3 op p [] v = some r → XC E mX7_term (dA d op + 1) 0 0 [.ref 61] sh J R K (QPm fr tp n nm op r sh J R K)) ∧
  (prs tp n f 1 2 op p [] v = some r → XC E mX7_added (dA d op + 2) 0 0 [.ref 61] sh J R K (QPm fr tp n nm op r sh J R K)) ∧
  (prs tp n f 1 1 op p [] v = some r → XC E mX7_both (dA d op + 4) 0 0 [.ref 61] sh J R K (QPm fr tp n nm op r sh J R K)) ∧
  (prs tp n f 1 0 op p [] v = some r → XC E mX7_either (dA d op + 5) 0 0 [.ref 61] sh J R K (QPm fr tp n nm op r sh J R K))
theorem dA_s (h : op < 5) : dA d op = dA d (op + 1) + 6 := by unfold dA; omega
theorem dA_6 : d + 6 ≤ dA d op := by unfold dA; omega
theorem nI_sub1 (a : Nat) : nI (a + 1) - nI 1 = nI a := by
  rw [← nI_add a 1, Int32.add_sub_cancel]
theorem m_fail' (hg : XG sh R) : XC E mX7_fail d 0 0 [.ref 61] sh I R L (fun v sh' J R' L' => v = none ∧ sh' = sh ∧ R' = R ∧ L' = L ∧ True ∧ (I 61 29 ≠ nI 0 → J = I)) := by
  refine XC.of (by decide) rfl rfl ?_
  refine xv_aload_n (q := 1) rfl dX7_fail_0 rfl rfl ?_
  refine xv_getz (q := 4) rfl dX7_fail_1 f_X7_166 (hg.1 _ _ rfl) ?_
  refine xv_if_ne (q := 7) (t := 20) rfl rfl dX7_fail_4 (fun _ => ?_) (fun z => ?_)
  · refine xv_vret dX7_fail_20 rfl ?_
    exact ⟨rfl, rfl, rfl, rfl, trivial, fun _ => rfl⟩
  · refine xv_aload_n (q := 8) rfl dX7_fail_7 rfl rfl ?_
    refine xv_iconst (v := nI 1) (q := 9) rfl dX7_fail_8 rfl ?_
    refine xv_putz (q := 12) rfl dX7_fail_9 f_X7_166 (fun h => by cases h) (hg.1 _ _ rfl) (by decide) ?_
    refine xv_aload_n (q := 13) rfl dX7_fail_12 rfl rfl ?_
    refine xv_aload_n (q := 14) rfl dX7_fail_13 rfl rfl ?_
    refine xv_geti (q := 17) rfl dX7_fail_14 f_X7_146 (hg.1 _ _ rfl) ?_
    refine xv_puti (q := 20) rfl dX7_fail_17 f_X7_170 (fun h => by cases h) (hg.1 _ _ rfl) ?_
    refine xv_vret dX7_fail_20 rfl ?_
    exact ⟨rfl, rfl, rfl, rfl, trivial, fun q => absurd z q⟩
theorem m_atom (hg : XG sh R) {f : Nat} (IH : PSM E d sh R fr tp n nm f) (hop : op ≤ 5) (hM : MG I L fr tp n nm p op) {v : PV} {r : PR} (h : prs tp n (f + 1) 4 0 op p [] v = some r) : XC E mX7_atom (dA d op) 0 0 [.ref 61] sh I R L (QPm fr tp n nm op r sh I R L) := by
  rw [prs_4] at h
  obtain ⟨gT, gp, gR, gM29, g28, gn⟩ := id hM
  have hd6 := dA_6 (d := d) (op := op)
  have htk := tkm_le tp n p
  refine XC.of (by decide) rfl rfl ?_
  refine xv_iconst (v := nI 0) (q := 1) rfl dX7_atom_0 rfl ?_
  refine xv_istore_n (q := 2) rfl dX7_atom_1 rfl rfl ?_
  refine xv_aload_n (q := 3) rfl dX7_atom_2 rfl rfl ?_
  refine xv_bipush (v := nI 45) (q := 5) rfl dX7_atom_3 rfl ?_
  refine xv_cV1 (z := mX7_isSign) (q := 8) rfl dX7_atom_5 l_X7_207 gX7_isSign (hg.1 _ _ rfl) rfl rfl rfl (m_isSign (d := d) hg) (by omega) ?_
  rw [isS_g hM (by decide) (by decide)]
  refine xv_if_eq (q := 11) (t := 37) rfl rfl dX7_atom_8 (fun zh8 => ?_) (fun zh8 => ?_)
  · have zh8 : ¬ tok tp n p = 45 := of_decide_eq_false (bIz zh8)
    refine xv_aload_n (q := 38) rfl dX7_atom_37 rfl rfl ?_
    refine xv_bipush (v := nI 40) (q := 40) rfl dX7_atom_38 rfl ?_
    refine xv_cV1 (z := mX7_isSign) (q := 43) rfl dX7_atom_40 l_X7_207 gX7_isSign (hg.1 _ _ rfl) rfl rfl rfl (m_isSign (d := d) hg) (by omega) ?_
    rw [isS_g hM (by decide) (by decide)]
    refine xv_if_eq (q := 46) (t := 95) rfl rfl dX7_atom_43 (fun h43 => ?_) (fun h43 => ?_)
    · have h43 : ¬ tok tp n p = 40 := of_decide_eq_false (bIz h43)
      refine xv_aload_n (q := 96) rfl dX7_atom_95 rfl rfl ?_
      refine xv_getz (q := 99) rfl dX7_atom_96 f_X7_166 (hg.1 _ _ rfl) ?_
      rw [gM29]
      refine xv_if_ne (q := 102) (t := 123) rfl rfl dX7_atom_99 (fun h99 => ?_) (fun h99 => ?_)
      · exact absurd rfl h99
      · refine xv_aload_n (q := 103) rfl dX7_atom_102 rfl rfl ?_
        refine xv_geti (q := 106) rfl dX7_atom_103 f_X7_149 (hg.1 _ _ rfl) ?_
        rw [gR.2.2.1]
        refine xv_iconst (v := nI 2) (q := 107) rfl dX7_atom_106 rfl ?_
        refine xv_icmp_ne (q := 110) (t := 123) rfl rfl dX7_atom_107 (fun h107 => ?_) (fun h107 => ?_)
        · have h107 : ¬ tok tp n p = 2 := fun z => h107 (by rw [tkm_2.mp z])
          rw [if_neg h107] at h
          refine xv_aload_n (q := 124) rfl dX7_atom_123 rfl rfl ?_
          refine xv_getz (q := 127) rfl dX7_atom_124 f_X7_166 (hg.1 _ _ rfl) ?_
          rw [gM29]
          refine xv_if_ne (q := 130) (t := 157) rfl rfl dX7_atom_127 (fun h127 => ?_) (fun h127 => ?_)
          · exact absurd rfl h127
          · refine xv_aload_n (q := 131) rfl dX7_atom_130 rfl rfl ?_
            refine xv_geti (q := 134) rfl dX7_atom_131 f_X7_149 (hg.1 _ _ rfl) ?_
            rw [gR.2.2.1]
            refine xv_iconst (v := nI 1) (q := 135) rfl dX7_atom_134 rfl ?_
            refine xv_icmp_ne (q := 138) (t := 157) rfl rfl dX7_atom_135 (fun h135 => ?_) (fun h135 => ?_)
            · have h135 : ¬ tkm tp n p = 1 := fun z => h135 (by rw [z])
              rw [if_neg (fun z => h135 (tkm_3.mp z).1), if_pos (Or.inl ⟨zh8, h43⟩)] at h
              obtain rfl := Option.some.inj h
              refine xv_aload_n (q := 158) rfl dX7_atom_157 rfl rfl ?_
              refine xv_rV0 (z := mX7_fail) (q := 161) rfl dX7_atom_158 l_X7_179 gX7_fail (hg.1 _ _ rfl) rfl rfl rfl (m_fail (d := d) hg gR.1) (by omega) ?_
              rintro _ _ J3 _ _ ⟨rfl, rfl, rfl, rfl, hF3, hB3, -⟩
              refine xv_iload_n (q := 162) rfl dX7_atom_161 rfl rfl ?_
              refine xv_iret dX7_atom_162 rfl ?_
              exact ⟨_, rfl, rfl, rfl, hF3, .rf, (fun z => by cases z), fun _ => hB3 gM29⟩
            · have h135 : tkm tp n p = 1 := (nI_eq (b := 1) (by omega) (by decide)).mp h135
              refine xv_aload_n (q := 139) rfl dX7_atom_138 rfl rfl ?_
              refine xv_rV0 (z := mX7_name) (q := 142) rfl dX7_atom_139 l_X7_221 gX7_name (hg.1 _ _ rfl) rfl rfl rfl (m_name (d := d) hg hM h135) (by omega) ?_
              rintro _ _ J3 _ L3 ⟨x, rfl, rfl, rfl, hF3, hL3, hb3, hb4⟩
              refine xv_istore_n (q := 143) rfl dX7_atom_142 rfl rfl ?_
              by_cases ht3 : tok tp n p = 3
              rotate_left
              · rw [if_neg ht3, if_pos (Or.inl ⟨zh8, h43⟩)] at h
                obtain rfl := Option.some.inj h
                refine xv_aload_n (q := 144) rfl dX7_atom_143 rfl rfl ?_
                refine xv_getz (q := 147) rfl dX7_atom_144 f_X7_166 (hg.1 _ _ rfl) ?_
                rw [(hb4 ht3).1]
                refine xv_if_ne (q := 150) (t := 161) rfl rfl dX7_atom_147 (fun _ => ?_) (fun z => absurd z (by decide))
                refine xv_iload_n (q := 162) rfl dX7_atom_161 rfl rfl ?_
                refine xv_iret dX7_atom_162 rfl ?_
                exact ⟨_, rfl, rfl, rfl, hF3, hL3, (fun z => by cases z), fun _ => hb4 ht3⟩
              rw [if_pos ht3] at h
              obtain rfl := Option.some.inj h
              obtain ⟨rfl, hM3⟩ := hb3 ht3
              refine xv_aload_n (q := 144) rfl dX7_atom_143 rfl rfl ?_
              refine xv_getz (q := 147) rfl dX7_atom_144 f_X7_166 (hg.1 _ _ rfl) ?_
              rw [hM3.2.2.2.1]
              refine xv_if_ne (q := 150) (t := 161) rfl rfl dX7_atom_147 (fun h147 => ?_) (fun h147 => ?_)
              · exact absurd rfl h147
              · refine xv_aload_n (q := 151) rfl dX7_atom_150 rfl rfl ?_
                refine xv_rV0 (z := mX7_next) (q := 154) rfl dX7_atom_151 l_X7_182 gX7_next (hg.1 _ _ rfl) rfl rfl rfl (m_adv (d := d) hg hM3 (by rw [h135]; decide)) (by omega) ?_
                rintro _ _ J4 _ L4 ⟨rfl, rfl, rfl, hF4, hL4, hM4⟩
                refine xv_goto (t := 161) rfl dX7_atom_154 ?_
                refine xv_iload_n (q := 162) rfl dX7_atom_161 rfl rfl ?_
                refine xv_iret dX7_atom_162 rfl ?_
                exact ⟨_, rfl, rfl, rfl, hF3.trans hF4, hL3.trans hL4, fun _ => ⟨rfl, hM4⟩, (fun z => by cases z)⟩
        · have h107 : tok tp n p = 2 := tkm_2.mpr ((nI_eq (b := 2) (by omega) (by decide)).mp h107)
          rw [if_pos h107] at h
          obtain rfl := Option.some.inj h
          refine xv_aload_n (q := 111) rfl dX7_atom_110 rfl rfl ?_
          refine xv_getl (q := 114) rfl dX7_atom_111 f_X7_160 (hg.1 _ _ rfl) ?_
          rw [gR.2.2.2.1 (tkm_2.mp h107)]
          refine xv_l2i (q := 115) rfl dX7_atom_114 ?_
          refine xv_as (w := nI (vlu tp n p)) (lN_i _) ?_
          refine xv_istore_n (q := 116) rfl dX7_atom_115 rfl rfl ?_
          refine xv_aload_n (q := 117) rfl dX7_atom_116 rfl rfl ?_
          refine xv_rV0 (z := mX7_next) (q := 120) rfl dX7_atom_117 l_X7_182 gX7_next (hg.1 _ _ rfl) rfl rfl rfl (m_adv (d := d) hg hM (tok_m h107 (by decide))) (by omega) ?_
          rintro _ _ J3 _ L3 ⟨rfl, rfl, rfl, hF3, hL3, hM3⟩
          refine xv_goto (t := 161) rfl dX7_atom_120 ?_
          refine xv_iload_n (q := 162) rfl dX7_atom_161 rfl rfl ?_
          refine xv_iret dX7_atom_162 rfl ?_
          exact ⟨_, rfl, rfl, rfl, hF3, hL3, fun _ => ⟨rfl, hM3⟩, (fun z => by cases z)⟩
    · have h43 : tok tp n p = 40 := of_decide_eq_true (bIn h43)
      rw [if_neg (show ¬ tok tp n p = 2 by omega), if_neg (show ¬ tok tp n p = 3 by omega)] at h
      refine xv_aload_n (q := 47) rfl dX7_atom_46 rfl rfl ?_
      refine xv_rV0 (z := mX7_opens) (q := 50) rfl dX7_atom_47 l_X7_210 gX7_opens (hg.1 _ _ rfl) rfl rfl rfl (m_opens (d := d) hg hM hop (tok_m h43 (by decide))) (by omega) ?_
      rintro _ _ J1 _ L1 ⟨b, rfl, rfl, rfl, hF1, hL1, hb1, hb2⟩
      refine xv_if_eq (q := 53) (t := 161) rfl rfl dX7_atom_50 (fun h50 => ?_) (fun h50 => ?_)
      · have ⟨ze5, hB⟩ := hb2 (bIz h50)
        rw [if_pos (by omega)] at h
        obtain rfl := Option.some.inj h
        refine xv_iload_n (q := 162) rfl dX7_atom_161 rfl rfl ?_
        refine xv_iret dX7_atom_162 rfl ?_
        exact ⟨_, rfl, rfl, rfl, hF1, hL1, (fun z => by cases z), fun _ => hB⟩
      · have ⟨ze5, hM1⟩ := hb1 (bIn h50)
        rw [if_neg (by omega), if_neg zh8] at h
        obtain ⟨r1, zh1, h⟩ := bnd h
        have hds := dA_s (d := d) ze5
        refine xv_aload_n (q := 54) rfl dX7_atom_53 rfl rfl ?_
        refine xv_rV0 (z := mX7_either) (q := 57) rfl dX7_atom_54 l_X7_218 gX7_either (hg.1 _ _ rfl) rfl rfl rfl ((IH (op + 1) _ J1 L1 [] v r1 ze5 hM1).2.2.2.2.2 zh1) (by omega) ?_
        rintro _ _ J2 _ L2 ⟨x, rfl, rfl, rfl, hF2, hL2, hb3, hb4⟩
        refine xv_istore_n (q := 58) rfl dX7_atom_57 rfl rfl ?_
        by_cases hr : r1.1 = false
        · rw [if_pos hr] at h
          obtain rfl := Option.some.inj h
          have hB := hb4 hr
          refine xv_aload_n (q := 59) rfl dX7_atom_58 rfl rfl ?_
          refine xv_bipush (v := nI 41) (q := 61) rfl dX7_atom_59 rfl ?_
          refine xv_cV1 (z := mX7_isSign) (q := 64) rfl dX7_atom_61 l_X7_207 gX7_isSign (hg.1 _ _ rfl) rfl rfl rfl (m_isSign (d := d) hg) (by omega) ?_
          rw [isS_b hB]
          refine xv_if_ne (q := 67) (t := 71) rfl rfl dX7_atom_64 (fun z => absurd rfl z) (fun _ => ?_)
          refine xv_aload_n (q := 68) rfl dX7_atom_67 rfl rfl ?_
          refine xv_rV0 (z := mX7_fail) (q := 71) rfl dX7_atom_68 l_X7_179 gX7_fail (hg.1 _ _ rfl) rfl rfl rfl (m_fail' (d := d) hg) (by omega) ?_
          rintro _ _ J3 _ _ ⟨rfl, rfl, rfl, rfl, hF3, hB3⟩
          obtain rfl := hB3 (by rw [hB.1]; decide)
          refine xv_aload_n (q := 72) rfl dX7_atom_71 rfl rfl ?_
          refine xv_dup (q := 73) rfl dX7_atom_72 rfl ?_
          refine xv_geti (q := 76) rfl dX7_atom_73 f_X7_176 (hg.1 _ _ rfl) ?_
          refine xv_iconst (v := nI 1) (q := 77) rfl dX7_atom_76 rfl ?_
          refine xv_isub (q := 78) rfl dX7_atom_77 ?_
          refine xv_puti (q := 81) rfl dX7_atom_78 f_X7_176 (fun h => by cases h) (hg.1 _ _ rfl) ?_
          refine xv_aload_n (q := 82) rfl dX7_atom_81 rfl rfl ?_
          refine xv_getz (q := 85) rfl dX7_atom_82 f_X7_166 (hg.1 _ _ rfl) ?_
          rw [hB.op.1]
          refine xv_if_ne (q := 88) (t := 161) rfl rfl dX7_atom_85 (fun _ => ?_) (fun z => absurd z (by decide))
          refine xv_iload_n (q := 162) rfl dX7_atom_161 rfl rfl ?_
          refine xv_iret dX7_atom_162 rfl ?_
          exact ⟨_, rfl, rfl, rfl, fpa_op (hF1.trans hF2), hL1.trans hL2, (fun z => by rw [hr] at z; cases z), fun _ => hB.op⟩
        rw [if_neg hr] at h
        obtain ⟨rfl, hM2⟩ := hb3 (bT hr)
        refine xv_aload_n (q := 59) rfl dX7_atom_58 rfl rfl ?_
        refine xv_bipush (v := nI 41) (q := 61) rfl dX7_atom_59 rfl ?_
        refine xv_cV1 (z := mX7_isSign) (q := 64) rfl dX7_atom_61 l_X7_207 gX7_isSign (hg.1 _ _ rfl) rfl rfl rfl (m_isSign (d := d) hg) (by omega) ?_
        rw [isS_g hM2 (by decide) (by decide)]
        refine xv_if_ne (q := 67) (t := 71) rfl rfl dX7_atom_64 (fun h64 => ?_) (fun h64 => ?_)
        · have h64 : tok tp n r1.2.1 = 41 := of_decide_eq_true (bIn h64)
          rw [if_pos h64] at h
          obtain rfl := Option.some.inj h
          refine xv_aload_n (q := 72) rfl dX7_atom_71 rfl rfl ?_
          refine xv_dup (q := 73) rfl dX7_atom_72 rfl ?_
          refine xv_geti (q := 76) rfl dX7_atom_73 f_X7_176 (hg.1 _ _ rfl) ?_
          rw [hM2.2.2.2.2.1]
          refine xv_iconst (v := nI 1) (q := 77) rfl dX7_atom_76 rfl ?_
          refine xv_isub (q := 78) rfl dX7_atom_77 ?_
          refine xv_as (w := nI op) (nI_sub1 op) ?_
          refine xv_puti (q := 81) rfl dX7_atom_78 f_X7_176 (fun h => by cases h) (hg.1 _ _ rfl) ?_
          refine xv_aload_n (q := 82) rfl dX7_atom_81 rfl rfl ?_
          refine xv_getz (q := 85) rfl dX7_atom_82 f_X7_166 (hg.1 _ _ rfl) ?_
          rw [hM2.op.2.2.2.1]
          refine xv_if_ne (q := 88) (t := 161) rfl rfl dX7_atom_85 (fun h85 => ?_) (fun h85 => ?_)
          · exact absurd rfl h85
          · refine xv_aload_n (q := 89) rfl dX7_atom_88 rfl rfl ?_
            refine xv_rV0 (z := mX7_next) (q := 92) rfl dX7_atom_89 l_X7_182 gX7_next (hg.1 _ _ rfl) rfl rfl rfl (m_adv (d := d) hg hM2.op (tok_m h64 (by decide))) (by omega) ?_
            rintro _ _ J3 _ L3 ⟨rfl, rfl, rfl, hF3, hL3, hM3⟩
            refine xv_goto (t := 161) rfl dX7_atom_92 ?_
            refine xv_iload_n (q := 162) rfl dX7_atom_161 rfl rfl ?_
            refine xv_iret dX7_atom_162 rfl ?_
            exact ⟨_, rfl, rfl, rfl, (fpa_op (hF1.trans hF2)).trans hF3, (hL1.trans hL2).trans hL3, fun _ => ⟨rfl, hM3⟩, (fun z => by cases z)⟩
        · have h64 : ¬ tok tp n r1.2.1 = 41 := of_decide_eq_false (bIz h64)
          rw [if_neg h64] at h
          obtain rfl := Option.some.inj h
          refine xv_aload_n (q := 68) rfl dX7_atom_67 rfl rfl ?_
          refine xv_rV0 (z := mX7_fail) (q := 71) rfl dX7_atom_68 l_X7_179 gX7_fail (hg.1 _ _ rfl) rfl rfl rfl (m_fail (d := d) hg hM2.2.2.1.1) (by omega) ?_
          rintro _ _ J3 _ _ ⟨rfl, rfl, rfl, rfl, hF3, hB3, -⟩
          have hB := hB3 hM2.2.2.2.1
          refine xv_aload_n (q := 72) rfl dX7_atom_71 rfl rfl ?_
          refine xv_dup (q := 73) rfl dX7_atom_72 rfl ?_
          refine xv_geti (q := 76) rfl dX7_atom_73 f_X7_176 (hg.1 _ _ rfl) ?_
          
          refine xv_iconst (v := nI 1) (q := 77) rfl dX7_atom_76 rfl ?_
          refine xv_isub (q := 78) rfl dX7_atom_77 ?_
          
          refine xv_puti (q := 81) rfl dX7_atom_78 f_X7_176 (fun h => by cases h) (hg.1 _ _ rfl) ?_
          refine xv_aload_n (q := 82) rfl dX7_atom_81 rfl rfl ?_
          refine xv_getz (q := 85) rfl dX7_atom_82 f_X7_166 (hg.1 _ _ rfl) ?_
          rw [hB.op.1]
          refine xv_if_ne (q := 88) (t := 161) rfl rfl dX7_atom_85 (fun h85 => ?_) (fun h85 => ?_)
          · refine xv_iload_n (q := 162) rfl dX7_atom_161 rfl rfl ?_
            refine xv_iret dX7_atom_162 rfl ?_
            exact ⟨_, rfl, rfl, rfl, fpa_op ((hF1.trans hF2).trans hF3), hL1.trans hL2, (fun z => by cases z), fun _ => hB.op⟩
          · exact absurd h85 (by decide)
  · have zh8 : tok tp n p = 45 := of_decide_eq_true (bIn zh8)
    rw [if_neg (show ¬ tok tp n p = 2 by omega), if_neg (show ¬ tok tp n p = 3 by omega)] at h
    refine xv_aload_n (q := 12) rfl dX7_atom_11 rfl rfl ?_
    refine xv_rV0 (z := mX7_opens) (q := 15) rfl dX7_atom_12 l_X7_210 gX7_opens (hg.1 _ _ rfl) rfl rfl rfl (m_opens (d := d) hg hM hop (tok_m zh8 (by decide))) (by omega) ?_
    rintro _ _ J1 _ L1 ⟨b, rfl, rfl, rfl, hF1, hL1, hb1, hb2⟩
    refine xv_if_eq (q := 18) (t := 161) rfl rfl dX7_atom_15 (fun h15 => ?_) (fun h15 => ?_)
    · have ⟨ze5, hB⟩ := hb2 (bIz h15)
      rw [if_pos (by omega)] at h
      obtain rfl := Option.some.inj h
      refine xv_iload_n (q := 162) rfl dX7_atom_161 rfl rfl ?_
      refine xv_iret dX7_atom_162 rfl ?_
      exact ⟨_, rfl, rfl, rfl, hF1, hL1, (fun z => by cases z), fun _ => hB⟩
    · have ⟨ze5, hM1⟩ := hb1 (bIn h15)
      rw [if_neg (by omega), if_pos zh8] at h
      obtain ⟨r1, zh1, h⟩ := bnd h
      have hds := dA_s (d := d) ze5
      refine xv_aload_n (q := 19) rfl dX7_atom_18 rfl rfl ?_
      refine xv_rV0 (z := mX7_atom) (q := 22) rfl dX7_atom_19 l_X7_214 gX7_atom (hg.1 _ _ rfl) rfl rfl rfl ((IH (op + 1) _ J1 L1 [] v r1 ze5 hM1).1 zh1) (by omega) ?_
      rintro _ _ J2 _ L2 ⟨x, rfl, rfl, rfl, hF2, hL2, hb3, hb4⟩
      refine xv_ineg (q := 23) rfl dX7_atom_22 ?_
      refine xv_istore_n (q := 24) rfl dX7_atom_23 rfl rfl ?_
      by_cases hr : r1.1 = false
      · rw [if_pos hr] at h
        obtain rfl := Option.some.inj h
        refine xv_aload_n (q := 25) rfl dX7_atom_24 rfl rfl ?_
        refine xv_dup (q := 26) rfl dX7_atom_25 rfl ?_
        refine xv_geti (q := 29) rfl dX7_atom_26 f_X7_176 (hg.1 _ _ rfl) ?_
        refine xv_iconst (v := nI 1) (q := 30) rfl dX7_atom_29 rfl ?_
        refine xv_isub (q := 31) rfl dX7_atom_30 ?_
        refine xv_puti (q := 34) rfl dX7_atom_31 f_X7_176 (fun h => by cases h) (hg.1 _ _ rfl) ?_
        refine xv_goto (t := 161) rfl dX7_atom_34 ?_
        refine xv_iload_n (q := 162) rfl dX7_atom_161 rfl rfl ?_
        refine xv_iret dX7_atom_162 rfl ?_
        exact ⟨_, rfl, rfl, rfl, fpa_op (hF1.trans hF2), hL1.trans hL2, (fun z => by rw [hr] at z; cases z), fun z => (hb4 z).op⟩
      rw [if_neg hr] at h
      obtain rfl := Option.some.inj h
      obtain ⟨rfl, hM2⟩ := hb3 (bT hr)
      refine xv_aload_n (q := 25) rfl dX7_atom_24 rfl rfl ?_
      refine xv_dup (q := 26) rfl dX7_atom_25 rfl ?_
      refine xv_geti (q := 29) rfl dX7_atom_26 f_X7_176 (hg.1 _ _ rfl) ?_
      rw [hM2.2.2.2.2.1]
      refine xv_iconst (v := nI 1) (q := 30) rfl dX7_atom_29 rfl ?_
      refine xv_isub (q := 31) rfl dX7_atom_30 ?_
      refine xv_as (w := nI op) (nI_sub1 op) ?_
      refine xv_puti (q := 34) rfl dX7_atom_31 f_X7_176 (fun h => by cases h) (hg.1 _ _ rfl) ?_
      refine xv_goto (t := 161) rfl dX7_atom_34 ?_
      refine xv_iload_n (q := 162) rfl dX7_atom_161 rfl rfl ?_
      refine xv_iret dX7_atom_162 rfl ?_
      exact ⟨_, rfl, rfl, rfl, fpa_op (hF1.trans hF2), hL1.trans hL2, fun _ => ⟨(wop_m15 nm _ 0).symm, hM2.op⟩, (fun z => by cases z)⟩
end MATOM

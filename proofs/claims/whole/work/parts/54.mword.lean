/-! the model: a word -/
def wd (w i : Nat) : Nat := (wdn.getD w []).getD i 0
def iL (tp : Nat → Nat) (s e i c : Nat) : Bool := if s + i < e then decide (tp (s + i) = c) else decide (c = 0)
theorem kno_L {tp : Nat → Nat} {s e w : Nat} (hw : w < 12) (hse : s ≤ e) (hl : ∀ i, s ≤ i → i < e → ltr tp i = true) : kno tp s e 12 = w ↔ e ≤ s + 8 ∧ ∀ i, i < 8 → iL tp s e i (wd w i) = true := by
  have zhx := xwl_le w hw
  rw [kno_iff (Nat.le_refl _) hw, mtc_iff]
  constructor
  · rintro ⟨zh1, zh2⟩
    refine ⟨by omega, fun i hi => ?_⟩
    unfold iL wd
    split
    · exact decide_eq_true (zh2 i (by omega))
    · exact decide_eq_true ((wdn_z w hw i hi).mpr (by omega))
  · rintro ⟨zh1, zh2⟩
    have hlen : xwl.getD w 0 = e - s := by
      rcases Nat.lt_trichotomy (xwl.getD w 0) (e - s) with h | h | h
      · have := zh2 (xwl.getD w 0) (by omega)
        unfold iL at this
        rw [if_pos (by omega), decide_eq_true_iff] at this
        have zhz : wd w (xwl.getD w 0) = 0 := (wdn_z w hw _ (by omega)).mpr (Nat.le_refl _)
        have hlt := hl (s + xwl.getD w 0) (by omega) (by omega)
        unfold ltr at hlt
        rw [Bool.and_eq_true_iff, decide_eq_true_iff, decide_eq_true_iff] at hlt
        omega
      · exact h
      · have := zh2 (e - s) (by omega)
        unfold iL at this
        rw [if_neg (by omega), decide_eq_true_iff] at this
        have := (wdn_z w hw _ (by omega)).mp this
        omega
    refine ⟨hlen, fun i hi => ?_⟩
    have := zh2 i (by omega)
    unfold iL at this
    rw [if_pos (by omega), decide_eq_true_iff] at this
    exact this
section MWORD
variable {E : XE} {d : Nat} {sh : XSh} {I : XI} {R : XRf} {L : XL} {fr n : Nat} {tp : Nat → Nat}
theorem m_isL (hg : XG sh R) (hT : MT I fr tp n) {s e : Nat} (zhs : s ≤ n) (he : e ≤ n) (h26 : I 61 26 = nI s) (h24 : I 61 24 = nI e) {i c : Nat} (hi : i < 8) (hc : c < 256) : XC E mX7_isLetter (d + 1) 0 0 [.ref 61, .int (nI i), .int (nI c)] sh I R L (xq (some (.int (bI (iL tp s e i c)))) sh I R L) := by
  have hn := hT.2.2.1
  refine XC.of (by decide) rfl rfl ?_
  refine xv_aload_n (q := 1) rfl dX7_isLetter_0 rfl rfl ?_
  refine xv_geti (q := 4) rfl dX7_isLetter_1 f_X7_146 (hg.1 _ _ rfl) ?_
  rw [h26]
  refine xv_iload_n (q := 5) rfl dX7_isLetter_4 rfl rfl ?_
  refine xv_iadd (q := 6) rfl dX7_isLetter_5 ?_
  refine xv_as (w := nI (s + i)) (nI_add _ _) ?_
  refine xv_aload_n (q := 7) rfl dX7_isLetter_6 rfl rfl ?_
  refine xv_geti (q := 10) rfl dX7_isLetter_7 f_X7_139 (hg.1 _ _ rfl) ?_
  rw [h24]
  refine xv_icmp_ge (q := 13) (t := 35) rfl rfl dX7_isLetter_10 (fun h10 => ?_) (fun h10 => ?_)
  · have h10 : ¬ s + i < e := by have := nIle h10 (by omega) (by omega); omega
    unfold iL
    rw [if_neg h10]
    refine xv_iload_n (q := 36) rfl dX7_isLetter_35 rfl rfl ?_
    refine xv_if_ne (q := 39) (t := 43) rfl rfl dX7_isLetter_36 (fun h36 => ?_) (fun h36 => ?_)
    · have zhz : ¬ c = 0 := fun z => h36 (by rw [z]; rfl)
      refine xv_iconst (v := nI 0) (q := 44) rfl dX7_isLetter_43 rfl ?_
      refine xv_zret (ty := .boolean) dX7_isLetter_44 rfl rfl ?_
      exact ⟨by rw [decide_eq_false zhz]; rfl, rfl, rfl, rfl, rfl⟩
    · have zhz : c = 0 := (nI_eq (b := 0) (by omega) (by decide)).mp h36
      refine xv_iconst (v := nI 1) (q := 40) rfl dX7_isLetter_39 rfl ?_
      refine xv_goto (t := 44) rfl dX7_isLetter_40 ?_
      refine xv_zret (ty := .boolean) dX7_isLetter_44 rfl rfl ?_
      exact ⟨by rw [decide_eq_true zhz]; rfl, rfl, rfl, rfl, rfl⟩
  · have h10 : s + i < e := nInle h10 (by omega) (by omega)
    have htb := (hT.2.2.2.2 (s + i) (by omega)).2
    refine xv_aload_n (q := 14) rfl dX7_isLetter_13 rfl rfl ?_
    refine xv_aload_n (q := 15) rfl dX7_isLetter_14 rfl rfl ?_
    refine xv_geti (q := 18) rfl dX7_isLetter_15 f_X7_146 (hg.1 _ _ rfl) ?_
    rw [h26]
    refine xv_iload_n (q := 19) rfl dX7_isLetter_18 rfl rfl ?_
    refine xv_iadd (q := 20) rfl dX7_isLetter_19 ?_
    refine xv_as (w := nI (s + i)) (nI_add _ _) ?_
    refine xv_cV1 (z := mX7_byteAt) (q := 23) rfl dX7_isLetter_20 l_X7_142 gX7_byteAt (hg.1 _ _ rfl) rfl rfl rfl (m_byte (d := d) hg hT (show s + i < 1000 by omega)) (by omega) ?_
    rw [show btm tp n (s + i) = nI (tp (s + i)) from if_pos (by omega)]
    unfold iL
    rw [if_pos h10]
    refine xv_iload_n (q := 24) rfl dX7_isLetter_23 rfl rfl ?_
    refine xv_icmp_ne (q := 27) (t := 31) rfl rfl dX7_isLetter_24 (fun h24x => ?_) (fun h24x => ?_)
    · have zhz : ¬ tp (s + i) = c := fun z => h24x (by rw [z])
      refine xv_iconst (v := nI 0) (q := 32) rfl dX7_isLetter_31 rfl ?_
      refine xv_goto (t := 44) rfl dX7_isLetter_32 ?_
      refine xv_zret (ty := .boolean) dX7_isLetter_44 rfl rfl ?_
      exact ⟨by rw [decide_eq_false zhz]; rfl, rfl, rfl, rfl, rfl⟩
    · have zhz : tp (s + i) = c := (nI_eq (by omega) (by omega)).mp h24x
      refine xv_iconst (v := nI 1) (q := 28) rfl dX7_isLetter_27 rfl ?_
      refine xv_goto (t := 44) rfl dX7_isLetter_28 ?_
      refine xv_zret (ty := .boolean) dX7_isLetter_44 rfl rfl ?_
      exact ⟨by rw [decide_eq_true zhz]; rfl, rfl, rfl, rfl, rfl⟩

theorem m_isW (hg : XG sh R) {nm : Nat → Int32} {p op : Nat} (hM : MG I L fr tp n nm p op) {w : Nat} (hw : w < 12) : XC E mX7_isWord (d + 2) 0 0 [.ref 61, .int (nI (wd w 0)), .int (nI (wd w 1)), .int (nI (wd w 2)), .int (nI (wd w 3)), .int (nI (wd w 4)), .int (nI (wd w 5)), .int (nI (wd w 6)), .int (nI (wd w 7))] sh I R L (xq (some (.int (bI (tkw tp n p w)))) sh I R L) := by
  obtain ⟨hT, zhp, ⟨h26, h24, h25, -, -⟩, h29, -, -⟩ := hM
  have htk := tkm_le tp n p
  have hsp := sta_le (tp := tp) zhp
  have hn := hT.2.2.1
  refine XC.of (by decide) rfl rfl ?_
  refine xv_aload_n (q := 1) rfl dX7_isWord_0 rfl rfl ?_
  refine xv_getz (q := 4) rfl dX7_isWord_1 f_X7_166 (hg.1 _ _ rfl) ?_
  rw [h29]
  refine xv_if_ne (q := 7) (t := 112) rfl rfl dX7_isWord_4 (fun zh4 => ?_) (fun zh4 => ?_)
  · exact absurd rfl zh4
  · refine xv_aload_n (q := 8) rfl dX7_isWord_7 rfl rfl ?_
    refine xv_geti (q := 11) rfl dX7_isWord_8 f_X7_149 (hg.1 _ _ rfl) ?_
    rw [h25]
    refine xv_iconst (v := nI 1) (q := 12) rfl dX7_isWord_11 rfl ?_
    refine xv_icmp_ne (q := 15) (t := 112) rfl rfl dX7_isWord_12 (fun h12 => ?_) (fun h12 => ?_)
    · have zhz : tkw tp n p w = false := by unfold tkw; rw [decide_eq_false (fun z => h12 (by rw [z])), Bool.false_and]
      refine xv_iconst (v := nI 0) (q := 113) rfl dX7_isWord_112 rfl ?_
      refine xv_zret (ty := .boolean) dX7_isWord_113 rfl rfl ?_
      exact ⟨by rw [zhz]; rfl, rfl, rfl, rfl, rfl⟩
    · have h12 : tkm tp n p = 1 := (nI_eq (b := 1) (by omega) (by decide)).mp h12
      obtain ⟨-, hnx, hlt, hsn⟩ := vlu_1 h12
      have hH : I 61 24 = nI (wen tp n (sta tp n p)) := by rw [h24 (by omega), hnx]
      have he : wen tp n (sta tp n p) ≤ n := scn_le _ _ _ _ (by omega)
      have hse : sta tp n p ≤ wen tp n (sta tp n p) := scn_ge _ _ _ _
      have hk := kno_L (tp := tp) hw hse (fun i zh1 zh2 => scn_q zh1 zh2)
      have hfk : (¬ (wen tp n (sta tp n p) ≤ sta tp n p + 8 ∧ ∀ i, i < 8 → iL tp (sta tp n p) (wen tp n (sta tp n p)) i (wd w i) = true)) → tkw tp n p w = false := fun z => by unfold tkw; rw [decide_eq_false (fun q => z (hk.mp q)), Bool.and_false]
      refine xv_aload_n (q := 16) rfl dX7_isWord_15 rfl rfl ?_
      refine xv_geti (q := 19) rfl dX7_isWord_16 f_X7_139 (hg.1 _ _ rfl) ?_
      rw [hH]
      refine xv_aload_n (q := 20) rfl dX7_isWord_19 rfl rfl ?_
      refine xv_geti (q := 23) rfl dX7_isWord_20 f_X7_146 (hg.1 _ _ rfl) ?_
      rw [h26]
      refine xv_bipush (v := nI 8) (q := 25) rfl dX7_isWord_23 rfl ?_
      refine xv_iadd (q := 26) rfl dX7_isWord_25 ?_
      refine xv_as (w := nI (sta tp n p + 8)) (nI_add _ _) ?_
      refine xv_icmp_gt (q := 29) (t := 112) rfl rfl dX7_isWord_26 (fun h26b => ?_) (fun h26b => ?_)
      · have h26b : sta tp n p + 8 < wen tp n (sta tp n p) := nIlt h26b (by omega) (by omega)
        have zhz := hfk (fun z => by omega)
        refine xv_iconst (v := nI 0) (q := 113) rfl dX7_isWord_112 rfl ?_
        refine xv_zret (ty := .boolean) dX7_isWord_113 rfl rfl ?_
        exact ⟨by rw [zhz]; rfl, rfl, rfl, rfl, rfl⟩
      · have h26b : wen tp n (sta tp n p) ≤ sta tp n p + 8 := by have := mt (nI_ltI (show sta tp n p + 8 < 2 ^ 31 by omega) (show wen tp n (sta tp n p) < 2 ^ 31 by omega)).mpr h26b; omega
        refine xv_aload_n (q := 30) rfl dX7_isWord_29 rfl rfl ?_
        refine xv_iconst (v := nI 0) (q := 31) rfl dX7_isWord_30 rfl ?_
        refine xv_iload_n (q := 32) rfl dX7_isWord_31 rfl rfl ?_
        refine xv_cV2 (z := mX7_isLetter) (q := 35) rfl dX7_isWord_32 l_X7_173 gX7_isLetter (hg.1 _ _ rfl) rfl rfl rfl (m_isL (d := d) (i := 0) (c := wd w 0) hg hT (show sta tp n p ≤ n by omega) he h26 hH (by decide) (wdn_b w hw 0 (by decide))) (by omega) ?_
        refine xv_if_eq (q := 38) (t := 112) rfl rfl dX7_isWord_35 (fun h35 => ?_) (fun h35 => ?_)
        · have zhz := hfk (fun z => by have := z.2 0 (by decide); rw [bIz h35] at this; cases this)
          refine xv_iconst (v := nI 0) (q := 113) rfl dX7_isWord_112 rfl ?_
          refine xv_zret (ty := .boolean) dX7_isWord_113 rfl rfl ?_
          exact ⟨by rw [zhz]; rfl, rfl, rfl, rfl, rfl⟩
        · have h35 := bIn h35
          refine xv_aload_n (q := 39) rfl dX7_isWord_38 rfl rfl ?_
          refine xv_iconst (v := nI 1) (q := 40) rfl dX7_isWord_39 rfl ?_
          refine xv_iload_n (q := 41) rfl dX7_isWord_40 rfl rfl ?_
          refine xv_cV2 (z := mX7_isLetter) (q := 44) rfl dX7_isWord_41 l_X7_173 gX7_isLetter (hg.1 _ _ rfl) rfl rfl rfl (m_isL (d := d) (i := 1) (c := wd w 1) hg hT (show sta tp n p ≤ n by omega) he h26 hH (by decide) (wdn_b w hw 1 (by decide))) (by omega) ?_
          refine xv_if_eq (q := 47) (t := 112) rfl rfl dX7_isWord_44 (fun h44 => ?_) (fun h44 => ?_)
          · have zhz := hfk (fun z => by have := z.2 1 (by decide); rw [bIz h44] at this; cases this)
            refine xv_iconst (v := nI 0) (q := 113) rfl dX7_isWord_112 rfl ?_
            refine xv_zret (ty := .boolean) dX7_isWord_113 rfl rfl ?_
            exact ⟨by rw [zhz]; rfl, rfl, rfl, rfl, rfl⟩
          · have h44 := bIn h44
            refine xv_aload_n (q := 48) rfl dX7_isWord_47 rfl rfl ?_
            refine xv_iconst (v := nI 2) (q := 49) rfl dX7_isWord_48 rfl ?_
            refine xv_iload_n (q := 50) rfl dX7_isWord_49 rfl rfl ?_
            refine xv_cV2 (z := mX7_isLetter) (q := 53) rfl dX7_isWord_50 l_X7_173 gX7_isLetter (hg.1 _ _ rfl) rfl rfl rfl (m_isL (d := d) (i := 2) (c := wd w 2) hg hT (show sta tp n p ≤ n by omega) he h26 hH (by decide) (wdn_b w hw 2 (by decide))) (by omega) ?_
            refine xv_if_eq (q := 56) (t := 112) rfl rfl dX7_isWord_53 (fun h53 => ?_) (fun h53 => ?_)
            · have zhz := hfk (fun z => by have := z.2 2 (by decide); rw [bIz h53] at this; cases this)
              refine xv_iconst (v := nI 0) (q := 113) rfl dX7_isWord_112 rfl ?_
              refine xv_zret (ty := .boolean) dX7_isWord_113 rfl rfl ?_
              exact ⟨by rw [zhz]; rfl, rfl, rfl, rfl, rfl⟩
            · have h53 := bIn h53
              refine xv_aload_n (q := 57) rfl dX7_isWord_56 rfl rfl ?_
              refine xv_iconst (v := nI 3) (q := 58) rfl dX7_isWord_57 rfl ?_
              refine xv_iload (q := 60) rfl dX7_isWord_58 rfl ?_
              refine xv_cV2 (z := mX7_isLetter) (q := 63) rfl dX7_isWord_60 l_X7_173 gX7_isLetter (hg.1 _ _ rfl) rfl rfl rfl (m_isL (d := d) (i := 3) (c := wd w 3) hg hT (show sta tp n p ≤ n by omega) he h26 hH (by decide) (wdn_b w hw 3 (by decide))) (by omega) ?_
              refine xv_if_eq (q := 66) (t := 112) rfl rfl dX7_isWord_63 (fun h63 => ?_) (fun h63 => ?_)
              · have zhz := hfk (fun z => by have := z.2 3 (by decide); rw [bIz h63] at this; cases this)
                refine xv_iconst (v := nI 0) (q := 113) rfl dX7_isWord_112 rfl ?_
                refine xv_zret (ty := .boolean) dX7_isWord_113 rfl rfl ?_
                exact ⟨by rw [zhz]; rfl, rfl, rfl, rfl, rfl⟩
              · have h63 := bIn h63
                refine xv_aload_n (q := 67) rfl dX7_isWord_66 rfl rfl ?_
                refine xv_iconst (v := nI 4) (q := 68) rfl dX7_isWord_67 rfl ?_
                refine xv_iload (q := 70) rfl dX7_isWord_68 rfl ?_
                refine xv_cV2 (z := mX7_isLetter) (q := 73) rfl dX7_isWord_70 l_X7_173 gX7_isLetter (hg.1 _ _ rfl) rfl rfl rfl (m_isL (d := d) (i := 4) (c := wd w 4) hg hT (show sta tp n p ≤ n by omega) he h26 hH (by decide) (wdn_b w hw 4 (by decide))) (by omega) ?_
                refine xv_if_eq (q := 76) (t := 112) rfl rfl dX7_isWord_73 (fun h73 => ?_) (fun h73 => ?_)
                · have zhz := hfk (fun z => by have := z.2 4 (by decide); rw [bIz h73] at this; cases this)
                  refine xv_iconst (v := nI 0) (q := 113) rfl dX7_isWord_112 rfl ?_
                  refine xv_zret (ty := .boolean) dX7_isWord_113 rfl rfl ?_
                  exact ⟨by rw [zhz]; rfl, rfl, rfl, rfl, rfl⟩
                · have h73 := bIn h73
                  refine xv_aload_n (q := 77) rfl dX7_isWord_76 rfl rfl ?_
                  refine xv_iconst (v := nI 5) (q := 78) rfl dX7_isWord_77 rfl ?_
                  refine xv_iload (q := 80) rfl dX7_isWord_78 rfl ?_
                  refine xv_cV2 (z := mX7_isLetter) (q := 83) rfl dX7_isWord_80 l_X7_173 gX7_isLetter (hg.1 _ _ rfl) rfl rfl rfl (m_isL (d := d) (i := 5) (c := wd w 5) hg hT (show sta tp n p ≤ n by omega) he h26 hH (by decide) (wdn_b w hw 5 (by decide))) (by omega) ?_
                  refine xv_if_eq (q := 86) (t := 112) rfl rfl dX7_isWord_83 (fun h83 => ?_) (fun h83 => ?_)
                  · have zhz := hfk (fun z => by have := z.2 5 (by decide); rw [bIz h83] at this; cases this)
                    refine xv_iconst (v := nI 0) (q := 113) rfl dX7_isWord_112 rfl ?_
                    refine xv_zret (ty := .boolean) dX7_isWord_113 rfl rfl ?_
                    exact ⟨by rw [zhz]; rfl, rfl, rfl, rfl, rfl⟩
                  · have h83 := bIn h83
                    refine xv_aload_n (q := 87) rfl dX7_isWord_86 rfl rfl ?_
                    refine xv_bipush (v := nI 6) (q := 89) rfl dX7_isWord_87 rfl ?_
                    refine xv_iload (q := 91) rfl dX7_isWord_89 rfl ?_
                    refine xv_cV2 (z := mX7_isLetter) (q := 94) rfl dX7_isWord_91 l_X7_173 gX7_isLetter (hg.1 _ _ rfl) rfl rfl rfl (m_isL (d := d) (i := 6) (c := wd w 6) hg hT (show sta tp n p ≤ n by omega) he h26 hH (by decide) (wdn_b w hw 6 (by decide))) (by omega) ?_
                    refine xv_if_eq (q := 97) (t := 112) rfl rfl dX7_isWord_94 (fun h94 => ?_) (fun h94 => ?_)
                    · have zhz := hfk (fun z => by have := z.2 6 (by decide); rw [bIz h94] at this; cases this)
                      refine xv_iconst (v := nI 0) (q := 113) rfl dX7_isWord_112 rfl ?_
                      refine xv_zret (ty := .boolean) dX7_isWord_113 rfl rfl ?_
                      exact ⟨by rw [zhz]; rfl, rfl, rfl, rfl, rfl⟩
                    · have h94 := bIn h94
                      refine xv_aload_n (q := 98) rfl dX7_isWord_97 rfl rfl ?_
                      refine xv_bipush (v := nI 7) (q := 100) rfl dX7_isWord_98 rfl ?_
                      refine xv_iload (q := 102) rfl dX7_isWord_100 rfl ?_
                      refine xv_cV2 (z := mX7_isLetter) (q := 105) rfl dX7_isWord_102 l_X7_173 gX7_isLetter (hg.1 _ _ rfl) rfl rfl rfl (m_isL (d := d) (i := 7) (c := wd w 7) hg hT (show sta tp n p ≤ n by omega) he h26 hH (by decide) (wdn_b w hw 7 (by decide))) (by omega) ?_
                      refine xv_if_eq (q := 108) (t := 112) rfl rfl dX7_isWord_105 (fun h105 => ?_) (fun h105 => ?_)
                      · have zhz := hfk (fun z => by have := z.2 7 (by decide); rw [bIz h105] at this; cases this)
                        refine xv_iconst (v := nI 0) (q := 113) rfl dX7_isWord_112 rfl ?_
                        refine xv_zret (ty := .boolean) dX7_isWord_113 rfl rfl ?_
                        exact ⟨by rw [zhz]; rfl, rfl, rfl, rfl, rfl⟩
                      · have h105 := bIn h105
                        have zhz : tkw tp n p w = true := by
                          unfold tkw
                          rw [decide_eq_true h12, decide_eq_true (hk.mpr ⟨h26b, fun i hi => ?_⟩)]
                          · rfl
                          · obtain rfl | rfl | rfl | rfl | rfl | rfl | rfl | rfl : i = 0 ∨ i = 1 ∨ i = 2 ∨ i = 3 ∨ i = 4 ∨ i = 5 ∨ i = 6 ∨ i = 7 := by omega
                            all_goals assumption
                        refine xv_iconst (v := nI 1) (q := 109) rfl dX7_isWord_108 rfl ?_
                        refine xv_goto (t := 113) rfl dX7_isWord_109 ?_
                        refine xv_zret (ty := .boolean) dX7_isWord_113 rfl rfl ?_
                        exact ⟨by rw [zhz]; rfl, rfl, rfl, rfl, rfl⟩
theorem m_isW_b (hg : XG sh R) {q : Nat} (hB : BD I q) {zc0 zc1 zc2 zc3 zc4 zc5 zc6 zc7 : Int32} : XC E mX7_isWord d 0 0 [.ref 61, .int zc0, .int zc1, .int zc2, .int zc3, .int zc4, .int zc5, .int zc6, .int zc7] sh I R L (xq (some (.int (bI false))) sh I R L) := by
  refine XC.of (by decide) rfl rfl ?_
  refine xv_aload_n (q := 1) rfl dX7_isWord_0 rfl rfl ?_
  refine xv_getz (q := 4) rfl dX7_isWord_1 f_X7_166 (hg.1 _ _ rfl) ?_
  rw [hB.1]
  refine xv_if_ne (q := 7) (t := 112) rfl rfl dX7_isWord_4 (fun zh4 => ?_) (fun zh4 => ?_)
  · refine xv_iconst (v := nI 0) (q := 113) rfl dX7_isWord_112 rfl ?_
    refine xv_zret (ty := .boolean) dX7_isWord_113 rfl rfl ?_
    exact xq_rfl
  · exact absurd zh4 (by decide)
end MWORD

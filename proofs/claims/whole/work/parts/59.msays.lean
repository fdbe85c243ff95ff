/-! the model: text, what a text says -/
/-- the model's texts -/
def MTX (J : XI) (tc : Nat) (tx : TXS) : Prop := J 61 3 = nI tc ∧ tc ≤ 6 ∧ ∀ t, t < tc → J 63 t = nI (tx t).1 ∧ (tx t).1 ≤ 160 ∧ (∀ i, i < (tx t).1 → J 62 (160 * t + i) = nI ((tx t).2 i) ∧ (tx t).2 i < 256) ∧ pok (tx t).2 (tx t).1 = true
theorem MTX.mv {I J : XI} {tc : Nat} {tx : TXS} (h : MTX I tc tx) (zh1 : J 61 3 = I 61 3) (zh2 : J 62 = I 62) (zh3 : J 63 = I 63) : MTX J tc tx := ⟨zh1.trans h.1, h.2.1, fun t ht => by rw [zh2, zh3]; exact h.2.2 t ht⟩
/-- what text leaves -/
def QMte (tc tl : Nat) (tp : Nat → Nat) (tx : TXS) (sh : XSh) (I : XI) (R : XRf) (L : XL) : XQ := fun v sh' J R' L' => v = some (.int (sp_text tc tl tp)) ∧ sh' = sh ∧ R' = R ∧ MTX J (tcn tc tl tp) (txn tc tl tp tx) ∧ KMp J (tln tc tl) tp ∧ (∀ k, k ≠ 61 → k ≠ 62 → k ≠ 63 → J k = I k) ∧ (∀ j, j ≠ 3 → j ≠ 6 → (j < 16 ∨ 31 ≤ j) → J 61 j = I 61 j) ∧ FL L L'
section MSAYS
variable {E : XE} {d : Nat} {sh : XSh} {I : XI} {R : XRf} {L : XL} {tp : Nat → Nat} {tl tc n : Nat} {tx : TXS} {c : CR}
/-- i bytes have been copied -/
def TCp (tc : Nat) (tp : Nat → Nat) (I J : XI) (i : Nat) : Prop := (∀ k, k ≠ 62 → J k = I k) ∧ (∀ a, a < 160 * tc → J 62 a = I 62 a) ∧ ∀ a, a < i → J 62 (160 * tc + a) = nI (tp a)
theorem m_text_end (hg : XG sh R) (htc : tc < 6) (hK : KMp I tl tp) (hT : MTX I tc tx) {J : XI} (hC : TCp tc tp I J tl) {l1 : Int32} : XV E mX7_text (d + 45) 0 0 (QMte tc tl tp tx sh I R L) 0 0 49 [some (.ref 61), some (.int l1)] [] sh J R L := by
  obtain ⟨hk1, hk2, hk3⟩ := hK
  obtain ⟨hc1, hc2, hc3⟩ := hC
  obtain ⟨ht1, ht2, ht3⟩ := id hT
  have e53 : J 61 = I 61 := hc1 61 (by decide)
  have e55 : J 63 = I 63 := hc1 63 (by decide)
  refine xv_aload_n (q := 50) rfl dX7_text_49 rfl rfl ?_
  refine xv_geta (q := 53) rfl dX7_text_50 f_X7_17 (hg.1 _ _ rfl) (hg.2 _ _ _ rfl) ?_
  refine xv_aload_n (q := 54) rfl dX7_text_53 rfl rfl ?_
  refine xv_geti (q := 57) rfl dX7_text_54 f_X7_85 (hg.1 _ _ rfl) ?_
  rw [e53, ht1]
  refine xv_aload_n (q := 58) rfl dX7_text_57 rfl rfl ?_
  refine xv_geti (q := 61) rfl dX7_text_58 f_X7_130 (hg.1 _ _ rfl) ?_
  rw [e53, hk1]
  refine xv_iast (q := 62) rfl dX7_text_61 (hg.1 _ _ rfl) rfl (by omega) (by decide) ?_
  refine xv_aload_n (q := 63) rfl dX7_text_62 rfl rfl ?_
  refine xv_iconst (v := nI 0) (q := 64) rfl dX7_text_63 rfl ?_
  refine xv_puti (q := 67) rfl dX7_text_64 f_X7_130 (fun h => by cases h) (hg.1 _ _ rfl) ?_
  have hx3 : (xi (xi J 63 tc (nI tl)) 61 6 (nI 0)) 61 3 = I 61 3 := by rw [xi_ne _ _ _ _ (by decide), xi_off _ _ _ _ (by decide), e53]
  have hx6 : (xi (xi J 63 tc (nI tl)) 61 6 (nI 0)) 61 6 = nI 0 := xi_eq _ _ _ _
  have hx54 : (xi (xi J 63 tc (nI tl)) 61 6 (nI 0)) 62 = J 62 := by rw [xi_off _ _ _ _ (by decide), xi_off _ _ _ _ (by decide)]
  have hx55 : ∀ t, (xi (xi J 63 tc (nI tl)) 61 6 (nI 0)) 63 t = if t = tc then nI tl else I 63 t := fun t => by
    rw [xi_off _ _ _ _ (by decide)]
    by_cases e : t = tc
    · rw [e, if_pos rfl, xi_eq]
    · rw [if_neg e, xi_ne _ _ _ _ (fun z => e z.2), e55]
  have hxk : ∀ k, k ≠ 61 → k ≠ 63 → (xi (xi J 63 tc (nI tl)) 61 6 (nI 0)) k = J k := fun k zh1 zh2 => by rw [xi_off _ _ _ _ zh1, xi_off _ _ _ _ zh2]
  have hxj : ∀ j, j ≠ 6 → (xi (xi J 63 tc (nI tl)) 61 6 (nI 0)) 61 j = I 61 j := fun j h => by rw [xi_ne _ _ _ _ (fun z => h z.2), xi_off _ _ _ _ (by decide), e53]
  refine xv_aload_n (q := 68) rfl dX7_text_67 rfl rfl ?_
  refine xv_aload_n (q := 69) rfl dX7_text_68 rfl rfl ?_
  refine xv_geti (q := 72) rfl dX7_text_69 f_X7_85 (hg.1 _ _ rfl) ?_
  rw [hx3, ht1]
  refine xv_iconst (v := nI 0) (q := 73) rfl dX7_text_72 rfl ?_
  refine xv_rV2 (z := mX7_read) (q := 76) rfl dX7_text_73 l_X7_244 gX7_read (hg.1 _ _ rfl) rfl rfl rfl (m_read (d := d) (n := tl) (tp := tp) (nm := fun j => I 61 (16 + j)) (k := 0) hg htc (by decide) hk2 (by rw [hx55 tc, if_pos rfl]) (fun i hi => ⟨by rw [hx54]; exact hc3 i hi, (hk3 i hi).2⟩) (fun j zhj => hxj _ (by omega))) (by omega) ?_
  rintro _ _ J5 _ L5 ⟨x, rfl, rfl, rfl, hF5, hL5, hb4, hb5⟩
  cases hpk : pok tp tl
  · refine xv_istore_n (q := 77) rfl dX7_text_76 rfl rfl ?_
    refine xv_aload_n (q := 78) rfl dX7_text_77 rfl rfl ?_
    refine xv_getz (q := 81) rfl dX7_text_78 f_X7_166 (hg.1 _ _ rfl) ?_
    rw [(hb5 hpk).1]
    refine xv_if_eq (q := 84) (t := 92) rfl rfl dX7_text_81 (fun h81 => ?_) (fun h81 => ?_)
    · exact absurd h81 (by decide)
    · refine xv_bipush (v := (-100)) (q := 86) rfl dX7_text_84 rfl ?_
      refine xv_aload_n (q := 87) rfl dX7_text_86 rfl rfl ?_
      refine xv_geti (q := 90) rfl dX7_text_87 f_X7_170 (hg.1 _ _ rfl) ?_
      rw [(hb5 hpk).2]
      refine xv_isub (q := 91) rfl dX7_text_90 ?_
      refine xv_iret dX7_text_91 rfl ?_
      have zhb := hb5 hpk
      refine ⟨?_, rfl, rfl, ?_, ⟨?_, by rw [show tln tc tl = 0 from if_neg (by omega)]; omega, fun i hi => absurd hi (by rw [show tln tc tl = 0 from if_neg (by omega)]; omega)⟩, fun k zh1 zh2 zh3 => ?_, fun j zh1 zh2 zh3 => ?_, hL5⟩
      · rw [show sp_text tc tl tp = -100 - nI (pfa tp tl) from by unfold sp_text; rw [if_neg (by omega), if_neg (by rw [hpk]; decide)]]
      · rw [show tcn tc tl tp = tc from by unfold tcn; rw [if_neg (by omega), if_neg (by rw [hpk]; decide)], show txn tc tl tp tx = tx from by unfold txn; rw [if_neg (by omega), if_neg (by rw [hpk]; decide)]]
        refine ⟨by rw [hF5.2 3 (by decide), hx3]; exact ht1, by omega, fun t ht => ?_⟩
        obtain ⟨zq1, zq2, zq3, zq4⟩ := ht3 t ht
        refine ⟨by rw [hF5.1 63 (by decide), hx55 t, if_neg (by omega)]; exact zq1, zq2, fun i hi => ⟨?_, (zq3 i hi).2⟩, zq4⟩
        rw [hF5.1 62 (by decide), hx54, hc2 _ (by omega)]
        exact (zq3 i hi).1
      · rw [hF5.2 6 (by decide), show tln tc tl = 0 from if_neg (by omega)]; exact hx6
      · rw [hF5.1 k zh1, hxk k zh1 zh3]; exact hc1 k zh2
      · rw [hF5.2 j zh3, hxj j zh2]
  · refine xv_istore_n (q := 77) rfl dX7_text_76 rfl rfl ?_
    refine xv_aload_n (q := 78) rfl dX7_text_77 rfl rfl ?_
    refine xv_getz (q := 81) rfl dX7_text_78 f_X7_166 (hg.1 _ _ rfl) ?_
    rw [(hb4 hpk).2]
    refine xv_if_eq (q := 84) (t := 92) rfl rfl dX7_text_81 (fun h81 => ?_) (fun h81 => ?_)
    · refine xv_aload_n (q := 93) rfl dX7_text_92 rfl rfl ?_
      refine xv_dup (q := 94) rfl dX7_text_93 rfl ?_
      refine xv_geti (q := 97) rfl dX7_text_94 f_X7_85 (hg.1 _ _ rfl) ?_
      rw [hF5.2 3 (by decide), hx3, ht1]
      refine xv_iconst (v := nI 1) (q := 98) rfl dX7_text_97 rfl ?_
      refine xv_iadd (q := 99) rfl dX7_text_98 ?_
      refine xv_as (w := nI (tc + 1)) (nI_add _ _) ?_
      refine xv_puti (q := 102) rfl dX7_text_99 f_X7_85 (fun h => by cases h) (hg.1 _ _ rfl) ?_
      refine xv_aload_n (q := 103) rfl dX7_text_102 rfl rfl ?_
      refine xv_geti (q := 106) rfl dX7_text_103 f_X7_85 (hg.1 _ _ rfl) ?_
      rw [xi_eq]
      refine xv_iconst (v := nI 1) (q := 107) rfl dX7_text_106 rfl ?_
      refine xv_isub (q := 108) rfl dX7_text_107 ?_
      refine xv_as (w := nI tc) (nI_sub1 _) ?_
      refine xv_iret dX7_text_108 rfl ?_
      have zhb := hb4 hpk
      refine ⟨?_, rfl, rfl, ?_, ⟨?_, by rw [show tln tc tl = 0 from if_neg (by omega)]; omega, fun i hi => absurd hi (by rw [show tln tc tl = 0 from if_neg (by omega)]; omega)⟩, fun k zh1 zh2 zh3 => ?_, fun j zh1 zh2 zh3 => ?_, hL5⟩
      · rw [show sp_text tc tl tp = nI tc from by unfold sp_text; rw [if_neg (by omega), if_pos hpk]]
      · rw [show tcn tc tl tp = tc + 1 from by unfold tcn; rw [if_neg (by omega), if_pos hpk], show txn tc tl tp tx = (fun i => if i = tc then (tl, tp) else tx i) from by unfold txn; rw [if_neg (by omega), if_pos hpk]]
        refine ⟨xi_eq _ _ _ _, by omega, fun t ht => ?_⟩
        rw [xi_off _ _ _ _ (by decide), xi_off _ _ _ _ (by decide), hF5.1 63 (by decide), hF5.1 62 (by decide), hx55 t, hx54]
        by_cases e : t = tc
        · subst e
          rw [if_pos rfl]
          simp only [if_pos]
          exact ⟨trivial, hk2, fun i hi => ⟨hc3 i hi, (hk3 i hi).2⟩, hpk⟩
        · rw [if_neg e]
          simp only [if_neg e]
          obtain ⟨zq1, zq2, zq3, zq4⟩ := ht3 t (by omega)
          exact ⟨zq1, zq2, fun i hi => ⟨by rw [hc2 _ (by omega)]; exact (zq3 i hi).1, (zq3 i hi).2⟩, zq4⟩
      · rw [xi_ne _ _ _ _ (by decide), hF5.2 6 (by decide), show tln tc tl = 0 from if_neg (by omega)]; exact hx6
      · rw [xi_off _ _ _ _ zh1, hF5.1 k zh1, hxk k zh1 zh3]; exact hc1 k zh2
      · rw [xi_ne _ _ _ _ (fun z => zh1 z.2), hF5.2 j zh3, hxj j zh2]
    · exact absurd rfl h81
theorem m_text_loop (hg : XG sh R) (htc : tc < 6) (hK : KMp I tl tp) (hT : MTX I tc tx) : ∀ (k i : Nat) (J : XI), i ≤ tl → tl < i + k → TCp tc tp I J i → XV E mX7_text (d + 45) 0 0 (QMte tc tl tp tx sh I R L) 0 0 14 [some (.ref 61), some (.int (nI i))] [] sh J R L := by
  intro k
  induction k with
  | zero => intro i J zh1 zh2; exact absurd zh2 (by omega)
  | succ k ih =>
    intro i J zh1 zh2 hC
    obtain ⟨hk1, hk2, hk3⟩ := id hK
    obtain ⟨hc1, hc2, hc3⟩ := id hC
    have e53 : J 61 = I 61 := hc1 61 (by decide)
    refine xv_iload_n (q := 15) rfl dX7_text_14 rfl rfl ?_
    refine xv_aload_n (q := 16) rfl dX7_text_15 rfl rfl ?_
    refine xv_geti (q := 19) rfl dX7_text_16 f_X7_130 (hg.1 _ _ rfl) ?_
    rw [e53, hk1]
    refine xv_icmp_ge (q := 22) (t := 49) rfl rfl dX7_text_19 (fun h19 => ?_) (fun h19 => ?_)
    · have h19 := nIle h19 (by omega) (by omega)
      obtain rfl : i = tl := by omega
      exact m_text_end (d := d) hg htc hK hT hC
    · have h19 := nInle h19 (by omega) (by omega)
      refine xv_aload_n (q := 23) rfl dX7_text_22 rfl rfl ?_
      refine xv_geta (q := 26) rfl dX7_text_23 f_X7_13 (hg.1 _ _ rfl) (hg.2 _ _ _ rfl) ?_
      refine xv_sipush (v := nI 160) (q := 29) rfl dX7_text_26 rfl ?_
      refine xv_aload_n (q := 30) rfl dX7_text_29 rfl rfl ?_
      refine xv_geti (q := 33) rfl dX7_text_30 f_X7_85 (hg.1 _ _ rfl) ?_
      rw [e53, hT.1]
      refine xv_imul (q := 34) rfl dX7_text_33 ?_
      refine xv_as (w := nI (160 * tc)) (pk_mul _ _) ?_
      refine xv_iload_n (q := 35) rfl dX7_text_34 rfl rfl ?_
      refine xv_iadd (q := 36) rfl dX7_text_35 ?_
      refine xv_as (w := nI (160 * tc + i)) (nI_add _ _) ?_
      refine xv_aload_n (q := 37) rfl dX7_text_36 rfl rfl ?_
      refine xv_geta (q := 40) rfl dX7_text_37 f_X7_20 (hg.1 _ _ rfl) (hg.2 _ _ _ rfl) ?_
      refine xv_iload_n (q := 41) rfl dX7_text_40 rfl rfl ?_
      refine xv_iald (q := 42) rfl dX7_text_41 (hg.1 _ _ rfl) rfl (by omega) (by decide) ?_
      rw [hc1 64 (by decide), (hk3 i h19).1]
      refine xv_iast (q := 43) rfl dX7_text_42 (hg.1 _ _ rfl) rfl (by omega) (by decide) ?_
      refine xv_iinc (q := 46) (v := nI 1) rfl dX7_text_43 rfl rfl ?_
      refine xv_goto (t := 14) rfl dX7_text_46 ?_
      rw [nI_add]
      refine ih (i + 1) _ (by omega) (by omega) ⟨fun k hk => (xi_off _ _ _ _ hk).trans (hc1 k hk), fun a ha => (xi_ne _ _ _ _ (by omega)).trans (hc2 a ha), fun a ha => ?_⟩
      by_cases e : a = i
      · rw [e, xi_eq]
      · rw [xi_ne _ _ _ _ (by omega)]; exact hc3 a (by omega)
theorem m_text (hg : XG sh R) (hK : KMp I tl tp) (hT : MTX I tc tx) : XC E mX7_text (d + 45) 0 0 [.ref 61] sh I R L (QMte tc tl tp tx sh I R L) := by
  refine XC.of (by decide) rfl rfl ?_
  refine xv_aload_n (q := 1) rfl dX7_text_0 rfl rfl ?_
  refine xv_geti (q := 4) rfl dX7_text_1 f_X7_85 (hg.1 _ _ rfl) ?_
  rw [hT.1]
  refine xv_bipush (v := nI 6) (q := 6) rfl dX7_text_4 rfl ?_
  refine xv_icmp_ne (q := 9) (t := 12) rfl rfl dX7_text_6 (fun zh6 => ?_) (fun zh6 => ?_)
  · have zh6 : tc < 6 := by have := hT.2.1; have zh6 : ¬ tc = 6 := fun z => zh6 (by rw [z]); omega
    refine xv_iconst (v := nI 0) (q := 13) rfl dX7_text_12 rfl ?_
    refine xv_istore_n (q := 14) rfl dX7_text_13 rfl rfl ?_
    exact m_text_loop (d := d) hg zh6 hK hT (tl + 1) 0 I (by omega) (by omega) ⟨fun _ _ => rfl, fun _ _ => rfl, fun a ha => absurd ha (by omega)⟩
  · have zh6 : tc = 6 := (nI_eq (b := 6) (by have := hT.2.1; omega) (by decide)).mp zh6
    refine xv_bipush (v := (-4)) (q := 11) rfl dX7_text_9 rfl ?_
    refine xv_iret dX7_text_11 rfl ?_
    refine ⟨?_, rfl, rfl, ?_, ?_, fun _ _ _ _ => rfl, fun _ _ _ _ => rfl, .rf⟩
    · rw [show sp_text tc tl tp = -4 from if_pos (by omega)]
    · rw [show tcn tc tl tp = tc from if_pos (by omega), show txn tc tl tp tx = tx from if_pos (by omega)]; exact hT
    · rw [show tln tc tl = tl from if_pos (by omega)]; exact hK
/-- only the reader's fields -/
def QSy (x : Nat) (sh : XSh) (I : XI) (R : XRf) (L : XL) : XQ := fun v sh' J R' L' => v = some (.int (nI x)) ∧ sh' = sh ∧ R' = R ∧ FPb I J ∧ FL L L'
theorem m_says (hg : XG sh R) (hm : XCm I 64 (ci c) n) (hn5 : n ≤ 5) {u : Nat} (hu4 : I 61 4 = nI u) (hT : MTX I tc tx) (hu : u < tc) {part r f row ins : Nat} (zhp : part < 3) (hr : r < n) : XC E mX7_says (d + 44) 0 0 [.ref 61, .int (nI part), .int (nI r), .int (nI f), .int (nI row), .int (nI ins)] sh I R L (QSy (prc c (tvx tx u) part r f row ins) sh I R L) := by
  obtain ⟨zq1, zq2, zq3, zq4⟩ := hT.2.2 u hu
  have htc := hT.2.1
  refine XC.of (by decide) rfl rfl ?_
  refine xv_aload_n (q := 1) rfl dX7_says_0 rfl rfl ?_
  refine xv_iload_n (q := 2) rfl dX7_says_1 rfl rfl ?_
  refine xv_puti (q := 5) rfl dX7_says_2 f_X7_189 (fun h => by cases h) (hg.1 _ _ rfl) ?_
  refine xv_aload_n (q := 6) rfl dX7_says_5 rfl rfl ?_
  refine xv_iload_n (q := 7) rfl dX7_says_6 rfl rfl ?_
  refine xv_puti (q := 10) rfl dX7_says_7 f_X7_192 (fun h => by cases h) (hg.1 _ _ rfl) ?_
  refine xv_aload_n (q := 11) rfl dX7_says_10 rfl rfl ?_
  refine xv_aload_n (q := 12) rfl dX7_says_11 rfl rfl ?_
  refine xv_geta (q := 15) rfl dX7_says_12 f_X7_32 (hg.1 _ _ rfl) (hg.2 _ _ _ rfl) ?_
  refine xv_iload_n (q := 16) rfl dX7_says_15 rfl rfl ?_
  refine xv_iald (q := 17) rfl dX7_says_16 (hg.1 _ _ rfl) rfl (by omega) (by decide) ?_
  rw [xi_off _ _ _ _ (by decide), xi_off _ _ _ _ (by decide), show I 67 r = nI (c 2 r) from hm 2 r (by decide) hr]
  refine xv_puti (q := 20) rfl dX7_says_17 f_X7_195 (fun h => by cases h) (hg.1 _ _ rfl) ?_
  refine xv_aload_n (q := 21) rfl dX7_says_20 rfl rfl ?_
  refine xv_iload (q := 23) rfl dX7_says_21 rfl ?_
  refine xv_puti (q := 26) rfl dX7_says_23 f_X7_198 (fun h => by cases h) (hg.1 _ _ rfl) ?_
  refine xv_aload_n (q := 27) rfl dX7_says_26 rfl rfl ?_
  refine xv_aload_n (q := 28) rfl dX7_says_27 rfl rfl ?_
  refine xv_geta (q := 31) rfl dX7_says_28 f_X7_29 (hg.1 _ _ rfl) (hg.2 _ _ _ rfl) ?_
  refine xv_iload_n (q := 32) rfl dX7_says_31 rfl rfl ?_
  refine xv_iald (q := 33) rfl dX7_says_32 (hg.1 _ _ rfl) rfl (by omega) (by decide) ?_
  rw [xi_off _ _ _ _ (by decide), xi_off _ _ _ _ (by decide), xi_off _ _ _ _ (by decide), xi_off _ _ _ _ (by decide), show I 66 r = nI (c 1 r) from hm 1 r (by decide) hr]
  refine xv_puti (q := 36) rfl dX7_says_33 f_X7_201 (fun h => by cases h) (hg.1 _ _ rfl) ?_
  refine xv_aload_n (q := 37) rfl dX7_says_36 rfl rfl ?_
  refine xv_iload (q := 39) rfl dX7_says_37 rfl ?_
  refine xv_puti (q := 42) rfl dX7_says_39 f_X7_204 (fun h => by cases h) (hg.1 _ _ rfl) ?_
  have hF0 : FPb I (xi (xi (xi (xi (xi (xi I 61 16 (nI r)) 61 17 (nI f)) 61 18 (nI (c 2 r))) 61 19 (nI row)) 61 20 (nI (c 1 r))) 61 21 (nI ins)) := fpb_xi (fpb_xi (fpb_xi (fpb_xi (fpb_xi (fpb_xi .rf (by decide) (by decide)) (by decide) (by decide)) (by decide) (by decide)) (by decide) (by decide)) (by decide) (by decide)) (by decide) (by decide)
  have hnm : ∀ j, j < 6 → (xi (xi (xi (xi (xi (xi I 61 16 (nI r)) 61 17 (nI f)) 61 18 (nI (c 2 r))) 61 19 (nI row)) 61 20 (nI (c 1 r))) 61 21 (nI ins)) 61 (16 + j) = nms c r f row ins j := fun j zhj => by
    obtain rfl | rfl | rfl | rfl | rfl | rfl : j = 0 ∨ j = 1 ∨ j = 2 ∨ j = 3 ∨ j = 4 ∨ j = 5 := by omega
    · rw [xi_ne _ _ _ _ (by decide), xi_ne _ _ _ _ (by decide), xi_ne _ _ _ _ (by decide), xi_ne _ _ _ _ (by decide), xi_ne _ _ _ _ (by decide), xi_eq]; rfl
    · rw [xi_ne _ _ _ _ (by decide), xi_ne _ _ _ _ (by decide), xi_ne _ _ _ _ (by decide), xi_ne _ _ _ _ (by decide), xi_eq]; rfl
    · rw [xi_ne _ _ _ _ (by decide), xi_ne _ _ _ _ (by decide), xi_ne _ _ _ _ (by decide), xi_eq]; rfl
    · rw [xi_ne _ _ _ _ (by decide), xi_ne _ _ _ _ (by decide), xi_eq]; rfl
    · rw [xi_ne _ _ _ _ (by decide), xi_eq]; rfl
    · rw [xi_eq]; rfl
  refine xv_aload_n (q := 43) rfl dX7_says_42 rfl rfl ?_
  refine xv_aload_n (q := 44) rfl dX7_says_43 rfl rfl ?_
  refine xv_geti (q := 47) rfl dX7_says_44 f_X7_247 (hg.1 _ _ rfl) ?_
  rw [hF0.2 4 (by decide), hu4]
  refine xv_iload_n (q := 48) rfl dX7_says_47 rfl rfl ?_
  refine xv_rV2 (z := mX7_read) (q := 51) rfl dX7_says_48 l_X7_244 gX7_read (hg.1 _ _ rfl) rfl rfl rfl (m_read (d := d) (n := (tx u).1) (tp := (tx u).2) (nm := nms c r f row ins) hg (by omega) zhp zq2 ((congrFun (hF0.1 63 (by decide)) u).trans zq1) (fun i hi => ⟨(congrFun (hF0.1 62 (by decide)) _).trans (zq3 i hi).1, (zq3 i hi).2⟩) hnm) (by omega) ?_
  rintro _ _ J5 _ L5 ⟨x, rfl, rfl, rfl, hF5, hL5, hb4, -⟩
  obtain ⟨rfl, -⟩ := hb4 zq4
  refine xv_iconst (v := nI 0) (q := 52) rfl dX7_says_51 rfl ?_
  refine xv_bipush (v := nI 99) (q := 54) rfl dX7_says_52 rfl ?_
  refine xv_cS3 (z := mX7_within) (q := 57) rfl dX7_says_54 l_X7_250 gX7_within rfl (m_within (d := d) _) (by omega) ?_
  refine xv_iret dX7_says_57 rfl ?_
  exact ⟨rfl, rfl, rfl, hF0.trans hF5, hL5⟩
end MSAYS

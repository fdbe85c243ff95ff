/-! the model: the next token, what it is -/
theorem lN_inj {a b : Nat} (ha : a < 2147483648) (zhb : b < 2147483648) (h : lN a = lN b) : a = b := by
  have := congrArg Int64.toInt32 h
  rw [lN_i, lN_i] at this
  exact (nI_eq ha zhb).mp this
theorem mta_iff {tp : Nat → Nat} {s w : Nat} : ∀ {k : Nat}, mta tp s w k = true ↔ ∀ i, i < k → tp (s + i) = (wdn.getD w []).getD i 0
  | 0 => ⟨fun _ _ h => absurd h (Nat.not_lt_zero _), fun _ => rfl⟩
  | k + 1 => by
    show (mta tp s w k && decide (tp (s + k) = (wdn.getD w []).getD k 0)) = true ↔ _
    rw [Bool.and_eq_true_iff, decide_eq_true_iff, mta_iff]
    refine ⟨fun h i hi => ?_, fun h => ⟨fun i hi => h i (by omega), h k (by omega)⟩⟩
    by_cases e : i = k
    · rw [e]; exact h.2
    · exact h.1 i (by omega)
theorem mtc_iff {tp : Nat → Nat} {s e w : Nat} : mtc tp s e w = true ↔ xwl.getD w 0 = e - s ∧ ∀ i, i < xwl.getD w 0 → tp (s + i) = (wdn.getD w []).getD i 0 := by
  unfold mtc
  rw [Bool.and_eq_true_iff, decide_eq_true_iff, mta_iff]
theorem wdn_u : ∀ w, w < 12 → ∀ x, x < 12 → xwl.getD w 0 = xwl.getD x 0 → (∀ i, i < 6 → i < xwl.getD w 0 → (wdn.getD w []).getD i 0 = (wdn.getD x []).getD i 0) → w = x := by decide +kernel
theorem mtc_u {tp : Nat → Nat} {s e w x : Nat} (hw : w < 12) (zhx : x < 12) (h : mtc tp s e w = true) (zh2 : mtc tp s e x = true) : w = x := by
  have a := mtc_iff.mp h
  have b := mtc_iff.mp zh2
  exact wdn_u w hw x zhx (a.1.trans b.1.symm) (fun i _ hi => (a.2 i hi).symm.trans (b.2 i (by omega)))
theorem kno_iff {tp : Nat → Nat} {s e w : Nat} : ∀ {k : Nat}, k ≤ 12 → w < k → (kno tp s e k = w ↔ mtc tp s e w = true)
  | 0, _, h => absurd h (Nat.not_lt_zero _)
  | k + 1, hk, hw => by
    show (if mtc tp s e k = true then k else kno tp s e k) = w ↔ _
    by_cases hm : mtc tp s e k = true
    · rw [if_pos hm]
      refine ⟨fun h => h ▸ hm, fun h => mtc_u (by omega) (by omega) hm h⟩
    · rw [if_neg hm]
      by_cases hwk : w = k
      · subst hwk
        refine ⟨fun h => ?_, fun h => absurd h hm⟩
        have := kno_le (tp := tp) s e w
        omega
      · exact kno_iff (by omega) (by omega)
theorem wdn_z : ∀ w, w < 12 → ∀ i, i < 8 → ((wdn.getD w []).getD i 0 = 0 ↔ xwl.getD w 0 ≤ i) := by decide +kernel
theorem wdn_b : ∀ w, w < 12 → ∀ i, i < 8 → (wdn.getD w []).getD i 0 < 256 := by decide +kernel
theorem wtk_le (w : Nat) : wtk w ≤ 9 ∧ wtk w ≠ 0 ∧ wtk w ≠ 2 := by
  unfold wtk
  split
  · omega
  · split <;> omega
theorem kno_12 {tp : Nat → Nat} {s e : Nat} : ∀ k, k ≤ 12 → kno tp s e k ≤ 12
  | 0, _ => Nat.le_refl 12
  | k + 1, h => by
    show (if mtc tp s e k = true then k else kno tp s e k) ≤ 12
    split
    · omega
    · exact kno_12 k (by omega)
/-- the token is the word w -/
def tkw (tp : Nat → Nat) (n p w : Nat) : Bool := decide (tkm tp n p = 1) && decide (kno tp (sta tp n p) (wen tp n (sta tp n p)) 12 = w)
/-- the token is the sign c -/
def tks (tp : Nat → Nat) (n p c : Nat) : Bool := decide (tkm tp n p = 3) && decide (tp (sta tp n p) = c)
theorem tks_iff {tp : Nat → Nat} {n p c : Nat} (hc : 40 ≤ c) : tks tp n p c = decide (tok tp n p = c) := by
  have hw := wtk_le (kno tp (sta tp n p) (wen tp n (sta tp n p)) 12)
  unfold tks tkm tok
  rw [Bool.eq_iff_iff, Bool.and_eq_true_iff, decide_eq_true_iff, decide_eq_true_iff, decide_eq_true_iff]
  split
  · omega
  · split
    · omega
    · split
      · split <;> omega
      · split <;> omega
theorem sgn_40 {b : Nat} (h : sgn b = true) : 40 ≤ b := by
  unfold sgn at h
  simp only [Bool.or_eq_true, decide_eq_true_iff] at h
  omega
theorem tkw_iff {tp : Nat → Nat} {n p w : Nat} (zh1 : 6 ≤ w) (zh2 : w < 12) : tkw tp n p w = decide (tok tp n p = w - 2) := by
  unfold tkw tkm tok
  rw [Bool.eq_iff_iff, Bool.and_eq_true_iff, decide_eq_true_iff, decide_eq_true_iff, decide_eq_true_iff]
  split
  · omega
  · split
    · have hk := kno_12 (tp := tp) (s := sta tp n p) (e := wen tp n (sta tp n p)) 12 (Nat.le_refl _)
      unfold wtk
      split
      · omega
      · split <;> omega
    · split
      · split <;> omega
      · split
        next h => have := sgn_40 h; omega
        next => omega
theorem tkm_3 {tp : Nat → Nat} {n p : Nat} : tok tp n p = 3 ↔ tkm tp n p = 1 ∧ kno tp (sta tp n p) (wen tp n (sta tp n p)) 12 < 6 := by
  unfold tkm tok
  split
  · omega
  · split
    · unfold wtk
      split
      · omega
      · split <;> omega
    · split
      · split <;> omega
      · split
        next h => have := sgn_40 h; omega
        next => omega
theorem tkm_2 {tp : Nat → Nat} {n p : Nat} : tok tp n p = 2 ↔ tkm tp n p = 2 := by
  unfold tkm tok
  split
  · omega
  · split
    · have := wtk_le (kno tp (sta tp n p) (wen tp n (sta tp n p)) 12)
      omega
    · split
      · split <;> omega
      · split
        next h => have := sgn_40 h; omega
        next => omega
theorem vlu_1 {tp : Nat → Nat} {n p : Nat} (h : tkm tp n p = 1) : vlu tp n p = kno tp (sta tp n p) (wen tp n (sta tp n p)) 12 ∧ nxt tp n p = wen tp n (sta tp n p) ∧ ltr tp (sta tp n p) = true ∧ sta tp n p < n := by
  unfold tkm at h
  split at h
  · cases h
  next zhs =>
    split at h
    next hl => exact ⟨if_pos hl, by unfold nxt; rw [if_neg zhs, if_pos hl], hl, by omega⟩
    next =>
      split at h
      · split at h <;> cases h
      · split at h <;> cases h
theorem tkm_le (tp : Nat → Nat) (n p : Nat) : tkm tp n p ≤ 4 := by
  unfold tkm
  split
  · omega
  · split
    · omega
    · split
      · split <;> omega
      · split <;> omega
section MTOK
variable {E : XE} {d : Nat} {sh : XSh} {I : XI} {R : XRf} {L : XL} {fr n : Nat} {tp : Nat → Nat}
theorem m_next (hg : XG sh R) (hT : MT I fr tp n) {p0 : Nat} (hp0 : p0 ≤ n) : ∀ (k p : Nat) (J : XI), p ≤ n → n < p + k → FNx I J → J 61 24 = nI p → scn (blk tp) n n p = sta tp n p0 → XV E mX7_next (d + 1) 0 0 (QNx tp n p0 sh I R L) 0 0 0 [some (.ref 61), none, none] [] sh J R L := by
  intro k
  induction k with
  | zero => intro p J zh1 zh2; exact absurd zh2 (by omega)
  | succ k ih =>
    intro p J zh1 zh2 hF h24 hsc
    have hTJ := hT.mv hF.fpa
    have hn := hT.2.2.1
    have hgo : blk tp p = true → p < n → XV E mX7_next (d + 1) 0 0 (QNx tp n p0 sh I R L) 0 0 0 [some (.ref 61), none, none] [] sh (xi J 61 24 (nI (p + 1))) R L := fun zhb hpn => ih (p + 1) _ (by omega) (by omega) (hF.xi (by decide) (by decide)) (xi_eq _ _ _ _) ((scn_eq (by omega) (by omega)).trans ((scn_go ⟨hpn, zhb⟩ (by omega)).symm.trans hsc))
    have hbt : ∀ c : Nat, c < 256 → btm tp n p = nI c → p < n ∧ tp p = c := fun c hc h => by
      by_cases hpn : p < n
      · rw [show btm tp n p = nI (tp p) from if_pos hpn] at h
        exact ⟨hpn, (nI_eq (by have := (hT.2.2.2.2 p hpn).2; omega) (by omega)).mp h⟩
      · rw [show btm tp n p = -1 from if_neg hpn] at h
        have := nI_pos' (n := c) (by omega)
        rw [← h] at this
        exact absurd this (by decide)
    refine xv_aload_n (q := 1) rfl dX7_next_0 rfl rfl ?_
    refine xv_aload_n (q := 2) rfl dX7_next_1 rfl rfl ?_
    refine xv_geti (q := 5) rfl dX7_next_2 f_X7_139 (hg.1 _ _ rfl) ?_
    rw [h24]
    refine xv_cV1 (z := mX7_byteAt) (q := 8) rfl dX7_next_5 l_X7_142 gX7_byteAt (hg.1 _ _ rfl) rfl rfl rfl (m_byte (d := d) hg hTJ (show p < 1000 by omega)) (by omega) ?_
    refine xv_bipush (v := nI 32) (q := 10) rfl dX7_next_8 rfl ?_
    refine xv_icmp_eq (q := 13) (t := 26) rfl rfl dX7_next_10 (fun h10 => ?_) (fun h10 => ?_)
    · have zhb := hbt 32 (by decide) h10
      refine xv_aload_n (q := 27) rfl dX7_next_26 rfl rfl ?_
      refine xv_dup (q := 28) rfl dX7_next_27 rfl ?_
      refine xv_geti (q := 31) rfl dX7_next_28 f_X7_139 (hg.1 _ _ rfl) ?_
      rw [h24]
      refine xv_iconst (v := nI 1) (q := 32) rfl dX7_next_31 rfl ?_
      refine xv_iadd (q := 33) rfl dX7_next_32 ?_
      refine xv_as (w := nI (p + 1)) (nI_add _ _) ?_
      refine xv_puti (q := 36) rfl dX7_next_33 f_X7_139 (fun h => by cases h) (hg.1 _ _ rfl) ?_
      refine xv_goto (t := 0) rfl dX7_next_36 ?_
      exact hgo (by unfold blk; rw [zhb.2]; rfl) zhb.1
    · refine xv_aload_n (q := 14) rfl dX7_next_13 rfl rfl ?_
      refine xv_aload_n (q := 15) rfl dX7_next_14 rfl rfl ?_
      refine xv_geti (q := 18) rfl dX7_next_15 f_X7_139 (hg.1 _ _ rfl) ?_
      rw [h24]
      refine xv_cV1 (z := mX7_byteAt) (q := 21) rfl dX7_next_18 l_X7_142 gX7_byteAt (hg.1 _ _ rfl) rfl rfl rfl (m_byte (d := d) hg hTJ (show p < 1000 by omega)) (by omega) ?_
      refine xv_bipush (v := nI 10) (q := 23) rfl dX7_next_21 rfl ?_
      refine xv_icmp_ne (q := 26) (t := 39) rfl rfl dX7_next_23 (fun h23 => ?_) (fun h23 => ?_)
      · have hst : ¬ (p < n ∧ blk tp p = true) := fun z => by
          have zhb := z.2
          unfold blk at zhb
          rw [show btm tp n p = nI (tp p) from if_pos z.1] at h10 h23
          rw [Bool.or_eq_true, decide_eq_true_iff, decide_eq_true_iff] at zhb
          rcases zhb with e | e
          · rw [e] at h10; exact h10 rfl
          · rw [e] at h23; exact h23 rfl
        refine m_tok hg hT hp0 hF ?_
        rw [h24, ← hsc, scn_stop hst]
      · have zhb := hbt 10 (by decide) (h23)
        refine xv_aload_n (q := 27) rfl dX7_next_26 rfl rfl ?_
        refine xv_dup (q := 28) rfl dX7_next_27 rfl ?_
        refine xv_geti (q := 31) rfl dX7_next_28 f_X7_139 (hg.1 _ _ rfl) ?_
        rw [h24]
        refine xv_iconst (v := nI 1) (q := 32) rfl dX7_next_31 rfl ?_
        refine xv_iadd (q := 33) rfl dX7_next_32 ?_
        refine xv_as (w := nI (p + 1)) (nI_add _ _) ?_
        refine xv_puti (q := 36) rfl dX7_next_33 f_X7_139 (fun h => by cases h) (hg.1 _ _ rfl) ?_
        refine xv_goto (t := 0) rfl dX7_next_36 ?_
        exact hgo (by unfold blk; rw [zhb.2]; rfl) zhb.1
/-- the reader stands at p, in nothing wrong, with op left open; nm is what the names stand for -/
def MG (J : XI) (K : XL) (fr : Nat) (tp : Nat → Nat) (n : Nat) (nm : Nat → Int32) (p op : Nat) : Prop := MT J fr tp n ∧ p ≤ n ∧ RdM J K tp n p ∧ J 61 29 = nI 0 ∧ J 61 28 = nI op ∧ ∀ j, j < 6 → J 61 (16 + j) = nm j
/-- it is wrong at q -/
def BD (J : XI) (q : Nat) : Prop := J 61 29 = nI 1 ∧ J 61 30 = nI q
theorem m_go (hg : XG sh R) (hT : MT I fr tp n) {p : Nat} (zhp : p ≤ n) (h24 : I 61 24 = nI p) : XC E mX7_next (d + 1) 0 0 [.ref 61] sh I R L (QNx tp n p sh I R L) := by
  refine XC.of (by decide) rfl rfl ?_
  exact m_next hg hT zhp (n + 1) p I zhp (by omega) ⟨fun _ _ => rfl, fun _ _ => rfl⟩ h24 rfl
theorem m_fail (hg : XG sh R) {p : Nat} (h26 : I 61 26 = nI p) : XC E mX7_fail d 0 0 [.ref 61] sh I R L (fun v sh' J R' L' => v = none ∧ sh' = sh ∧ R' = R ∧ L' = L ∧ FPa I J ∧ (I 61 29 = nI 0 → BD J p) ∧ (I 61 29 ≠ nI 0 → J = I)) := by
  refine XC.of (by decide) rfl rfl ?_
  refine xv_aload_n (q := 1) rfl dX7_fail_0 rfl rfl ?_
  refine xv_getz (q := 4) rfl dX7_fail_1 f_X7_166 (hg.1 _ _ rfl) ?_
  refine xv_if_ne (q := 7) (t := 20) rfl rfl dX7_fail_4 (fun zh4 => ?_) (fun zh4 => ?_)
  · refine xv_vret dX7_fail_20 rfl ?_
    exact ⟨rfl, rfl, rfl, rfl, .rf, fun z => absurd z zh4, fun _ => rfl⟩
  · refine xv_aload_n (q := 8) rfl dX7_fail_7 rfl rfl ?_
    refine xv_iconst (v := nI 1) (q := 9) rfl dX7_fail_8 rfl ?_
    refine xv_putz (q := 12) rfl dX7_fail_9 f_X7_166 (fun h => by cases h) (hg.1 _ _ rfl) (by decide) ?_
    refine xv_aload_n (q := 13) rfl dX7_fail_12 rfl rfl ?_
    refine xv_aload_n (q := 14) rfl dX7_fail_13 rfl rfl ?_
    refine xv_geti (q := 17) rfl dX7_fail_14 f_X7_146 (hg.1 _ _ rfl) ?_
    rw [xi_ne _ _ _ _ (by decide), h26]
    refine xv_puti (q := 20) rfl dX7_fail_17 f_X7_170 (fun h => by cases h) (hg.1 _ _ rfl) ?_
    refine xv_vret dX7_fail_20 rfl ?_
    exact ⟨rfl, rfl, rfl, rfl, (FPa.xi (by decide) (by decide)).trans (FPa.xi (by decide) (by decide)), fun _ => ⟨by rw [xi_ne _ _ _ _ (by decide)]; exact xi_eq _ _ _ _, xi_eq _ _ _ _⟩, fun z => absurd (show I 61 29 = nI 0 from zh4) z⟩
/-- what isSign asks -/
def isS (J : XI) (K : XL) (c : Int32) : Bool := decide (J 61 29 = nI 0) && (decide (J 61 25 = nI 3) && decide (K 61 27 = c.toInt64))
theorem m_isSign (hg : XG sh R) {c : Int32} : XC E mX7_isSign d 0 0 [.ref 61, .int c] sh I R L (xq (some (.int (bI (isS I L c)))) sh I R L) := by
  refine XC.of (by decide) rfl rfl ?_
  refine xv_aload_n (q := 1) rfl dX7_isSign_0 rfl rfl ?_
  refine xv_getz (q := 4) rfl dX7_isSign_1 f_X7_166 (hg.1 _ _ rfl) ?_
  refine xv_if_ne (q := 7) (t := 29) rfl rfl dX7_isSign_4 (fun zh4 => ?_) (fun zh4 => ?_)
  · have zhz : isS I L c = false := by unfold isS; rw [decide_eq_false (show ¬ I 61 29 = nI 0 from zh4)]; rfl
    refine xv_iconst (v := nI 0) (q := 30) rfl dX7_isSign_29 rfl ?_
    refine xv_zret (ty := .boolean) dX7_isSign_30 rfl rfl ?_
    exact ⟨by rw [zhz]; rfl, rfl, rfl, rfl, rfl⟩
  · refine xv_aload_n (q := 8) rfl dX7_isSign_7 rfl rfl ?_
    refine xv_geti (q := 11) rfl dX7_isSign_8 f_X7_149 (hg.1 _ _ rfl) ?_
    refine xv_iconst (v := nI 3) (q := 12) rfl dX7_isSign_11 rfl ?_
    refine xv_icmp_ne (q := 15) (t := 29) rfl rfl dX7_isSign_12 (fun h12 => ?_) (fun h12 => ?_)
    · have zhz : isS I L c = false := by unfold isS; rw [decide_eq_false (show ¬ I 61 25 = nI 3 from h12), Bool.false_and, Bool.and_false]
      refine xv_iconst (v := nI 0) (q := 30) rfl dX7_isSign_29 rfl ?_
      refine xv_zret (ty := .boolean) dX7_isSign_30 rfl rfl ?_
      exact ⟨by rw [zhz]; rfl, rfl, rfl, rfl, rfl⟩
    · refine xv_aload_n (q := 16) rfl dX7_isSign_15 rfl rfl ?_
      refine xv_getl (q := 19) rfl dX7_isSign_16 f_X7_160 (hg.1 _ _ rfl) ?_
      refine xv_iload_n (q := 20) rfl dX7_isSign_19 rfl rfl ?_
      refine xv_i2l (q := 21) rfl dX7_isSign_20 ?_
      refine xv_lcmp (q := 22) rfl dX7_isSign_21 ?_
      refine xv_if_ne (q := 25) (t := 29) rfl rfl dX7_isSign_22 (fun h22 => ?_) (fun h22 => ?_)
      · have zhz : isS I L c = false := by unfold isS; rw [decide_eq_false (fun z => h22 ((lg_cmp_eq _ _).mpr z)), Bool.and_false, Bool.and_false]
        refine xv_iconst (v := nI 0) (q := 30) rfl dX7_isSign_29 rfl ?_
        refine xv_zret (ty := .boolean) dX7_isSign_30 rfl rfl ?_
        exact ⟨by rw [zhz]; rfl, rfl, rfl, rfl, rfl⟩
      · have zhz : isS I L c = true := by unfold isS; rw [decide_eq_true (show I 61 29 = nI 0 from zh4), decide_eq_true (show I 61 25 = nI 3 from h12), decide_eq_true ((lg_cmp_eq _ _).mp (h22))]; rfl
        refine xv_iconst (v := nI 1) (q := 26) rfl dX7_isSign_25 rfl ?_
        refine xv_goto (t := 30) rfl dX7_isSign_26 ?_
        refine xv_zret (ty := .boolean) dX7_isSign_30 rfl rfl ?_
        exact ⟨by rw [zhz]; rfl, rfl, rfl, rfl, rfl⟩
theorem isS_g {J : XI} {nm : Nat → Int32} {p op c : Nat} (h : MG J L fr tp n nm p op) (hc : 40 ≤ c) (hc2 : c < 256) : isS J L (nI c) = decide (tok tp n p = c) := by
  obtain ⟨hT, zhp, ⟨h26, h24, h25, hv2, hv3⟩, h29, h28, hnm⟩ := h
  rw [← tks_iff hc]
  unfold isS tks
  rw [decide_eq_true h29, Bool.true_and, h25, nI_l (by omega)]
  have hk := tkm_le tp n p
  by_cases e : tkm tp n p = 3
  · rw [e, hv3 e, decide_eq_true rfl, decide_eq_true rfl, Bool.true_and, Bool.true_and]
    have zhs : sta tp n p < n := by
      by_cases h : n ≤ sta tp n p
      · unfold tkm at e; rw [if_pos h] at e; cases e
      · omega
    have zhb := (hT.2.2.2.2 _ zhs).2
    rw [Bool.eq_iff_iff, decide_eq_true_iff, decide_eq_true_iff]
    exact ⟨fun z => lN_inj (by omega) (by omega) z, fun z => by rw [z]⟩
  · rw [decide_eq_false (fun z => e ((nI_eq (by omega) (by decide)).mp z)), decide_eq_false e]; rfl
theorem isS_b {J : XI} {q : Nat} {c : Int32} (h : BD J q) : isS J L c = false := by
  unfold isS
  rw [h.1, decide_eq_false (by decide)]; rfl
end MTOK

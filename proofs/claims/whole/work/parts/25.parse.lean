theorem tok_lt {tp : Nat → Nat} {n p : Nat} (h : ∀ i, i < n → tp i < 256) : tok tp n p < 256 := by
  unfold tok
  split
  · omega
  · next h1 =>
    split
    · unfold wtk; split
      · omega
      · split <;> omega
    · split
      · split <;> omega
      · split
        · exact h _ (by omega)
        · omega
def lvI (t : Nat) : Int32 := if lvo t = 9 then -1 else nI (lvo t)
theorem lvI_eq {t lv : Nat} (hl : lv < 4) : lvI t = nI lv ↔ lvo t = lv := by
  unfold lvI
  by_cases h : lvo t = 9
  · rw [if_pos h]
    constructor
    · intro q
      rcases (show lv = 0 ∨ lv = 1 ∨ lv = 2 ∨ lv = 3 by omega) with rfl | rfl | rfl | rfl <;> exact absurd q (by decide)
    · intro q; omega
  · rw [if_neg h]
    have hb : lvo t < 10 := by unfold lvo; split <;> (try split) <;> (try split) <;> (try split) <;> omega
    exact ⟨fun q => nIe q (by omega) (by omega), fun q => by rw [q]⟩
section PARSE
variable {E : XE} {d : Nat} {sh : XSh} {I : XI} {R : XRf} {L : XL} {tp : Nat → Nat} {n : Nat}
theorem c_levelOf {t : Nat} (ht : t < 256) : XC E mX1_levelOf d 0 0 [.int (nI t)] sh I R L (xq (some (.int (lvI t))) sh I R L) := by
  refine XC.of (by decide) rfl rfl ?_
  by_cases h : t = 7 ∨ t = 8 ∨ t = 42 ∨ t = 43 ∨ t = 45
  · rcases h with rfl | rfl | rfl | rfl | rfl
    · refine xv_iload_n (q := 1) rfl dX1_levelOf_0 rfl rfl ?_
      refine xv_lookup (off := 51) (t := 52) dX1_levelOf_1 (by decide) (by decide) rfl ?_
      refine xv_iconst (v := nI 0) (q := 53) rfl dX1_levelOf_52 rfl ?_
      refine xv_iret dX1_levelOf_53 rfl ?_
      exact xq_rfl
    · refine xv_iload_n (q := 1) rfl dX1_levelOf_0 rfl rfl ?_
      refine xv_lookup (off := 53) (t := 54) dX1_levelOf_1 (by decide) (by decide) rfl ?_
      refine xv_iconst (v := nI 1) (q := 55) rfl dX1_levelOf_54 rfl ?_
      refine xv_iret dX1_levelOf_55 rfl ?_
      exact xq_rfl
    · refine xv_iload_n (q := 1) rfl dX1_levelOf_0 rfl rfl ?_
      refine xv_lookup (off := 57) (t := 58) dX1_levelOf_1 (by decide) (by decide) rfl ?_
      refine xv_iconst (v := nI 3) (q := 59) rfl dX1_levelOf_58 rfl ?_
      refine xv_iret dX1_levelOf_59 rfl ?_
      exact xq_rfl
    · refine xv_iload_n (q := 1) rfl dX1_levelOf_0 rfl rfl ?_
      refine xv_lookup (off := 55) (t := 56) dX1_levelOf_1 (by decide) (by decide) rfl ?_
      refine xv_iconst (v := nI 2) (q := 57) rfl dX1_levelOf_56 rfl ?_
      refine xv_iret dX1_levelOf_57 rfl ?_
      exact xq_rfl
    · refine xv_iload_n (q := 1) rfl dX1_levelOf_0 rfl rfl ?_
      refine xv_lookup (off := 55) (t := 56) dX1_levelOf_1 (by decide) (by decide) rfl ?_
      refine xv_iconst (v := nI 2) (q := 57) rfl dX1_levelOf_56 rfl ?_
      refine xv_iret dX1_levelOf_57 rfl ?_
      exact xq_rfl
  · have hl : lvI t = -1 := by
      unfold lvI lvo
      rw [if_neg (show ¬ t = 7 by omega), if_neg (show ¬ t = 8 by omega), if_neg (show ¬ (t = 43 ∨ t = 45) by omega), if_neg (show ¬ t = 42 by omega)]; rfl
    have ho : Op.lookupswitch.offset (#[(7, 51), (8, 53), (42, 57), (43, 55), (45, 55)] : Array (Int × Int)).toList 59 (nI t).toInt = 59 := (by decide +kernel : ∀ t, t < 256 → ¬ (t = 7 ∨ t = 8 ∨ t = 42 ∨ t = 43 ∨ t = 45) → Op.lookupswitch.offset (#[(7, 51), (8, 53), (42, 57), (43, 55), (45, 55)] : Array (Int × Int)).toList 59 (nI t).toInt = 59) t ht h
    refine xv_iload_n (q := 1) rfl dX1_levelOf_0 rfl rfl ?_
    refine xv_lookup (off := 59) (t := 60) dX1_levelOf_1 (by decide) ho rfl ?_
    refine xv_iconst (v := (-1)) (q := 61) rfl dX1_levelOf_60 rfl ?_
    refine xv_iret dX1_levelOf_61 rfl ?_
    exact ⟨by rw [hl], rfl, rfl, rfl, rfl⟩
theorem c_codeOf {t : Nat} (ht : t < 256) : XC E mX1_codeOf d 0 0 [.int (nI t)] sh I R L (xq (some (.int (cdo t))) sh I R L) := by
  refine XC.of (by decide) rfl rfl ?_
  by_cases h : t = 7 ∨ t = 8 ∨ t = 43 ∨ t = 45 ∨ t = 60 ∨ t = 61
  · rcases h with rfl | rfl | rfl | rfl | rfl | rfl
    · refine xv_iload_n (q := 1) rfl dX1_codeOf_0 rfl rfl ?_
      refine xv_lookup (off := 59) (t := 60) dX1_codeOf_1 (by decide) (by decide) rfl ?_
      refine xv_bipush (v := (-7)) (q := 62) rfl dX1_codeOf_60 rfl ?_
      refine xv_iret dX1_codeOf_62 rfl ?_
      exact xq_rfl
    · refine xv_iload_n (q := 1) rfl dX1_codeOf_0 rfl rfl ?_
      refine xv_lookup (off := 62) (t := 63) dX1_codeOf_1 (by decide) (by decide) rfl ?_
      refine xv_bipush (v := (-8)) (q := 65) rfl dX1_codeOf_63 rfl ?_
      refine xv_iret dX1_codeOf_65 rfl ?_
      exact xq_rfl
    · refine xv_iload_n (q := 1) rfl dX1_codeOf_0 rfl rfl ?_
      refine xv_lookup (off := 71) (t := 72) dX1_codeOf_1 (by decide) (by decide) rfl ?_
      refine xv_bipush (v := (-11)) (q := 74) rfl dX1_codeOf_72 rfl ?_
      refine xv_iret dX1_codeOf_74 rfl ?_
      exact xq_rfl
    · refine xv_iload_n (q := 1) rfl dX1_codeOf_0 rfl rfl ?_
      refine xv_lookup (off := 74) (t := 75) dX1_codeOf_1 (by decide) (by decide) rfl ?_
      refine xv_bipush (v := (-12)) (q := 77) rfl dX1_codeOf_75 rfl ?_
      refine xv_iret dX1_codeOf_77 rfl ?_
      exact xq_rfl
    · refine xv_iload_n (q := 1) rfl dX1_codeOf_0 rfl rfl ?_
      refine xv_lookup (off := 65) (t := 66) dX1_codeOf_1 (by decide) (by decide) rfl ?_
      refine xv_bipush (v := (-9)) (q := 68) rfl dX1_codeOf_66 rfl ?_
      refine xv_iret dX1_codeOf_68 rfl ?_
      exact xq_rfl
    · refine xv_iload_n (q := 1) rfl dX1_codeOf_0 rfl rfl ?_
      refine xv_lookup (off := 68) (t := 69) dX1_codeOf_1 (by decide) (by decide) rfl ?_
      refine xv_bipush (v := (-10)) (q := 71) rfl dX1_codeOf_69 rfl ?_
      refine xv_iret dX1_codeOf_71 rfl ?_
      exact xq_rfl
  · have hl : cdo t = -13 := by
      unfold cdo
      rw [if_neg (show ¬ t = 7 by omega), if_neg (show ¬ t = 8 by omega), if_neg (show ¬ t = 60 by omega), if_neg (show ¬ t = 61 by omega), if_neg (show ¬ t = 43 by omega), if_neg (show ¬ t = 45 by omega)]
    have ho : Op.lookupswitch.offset (#[(7, 59), (8, 62), (43, 71), (45, 74), (60, 65), (61, 68)] : Array (Int × Int)).toList 77 (nI t).toInt = 77 := (by decide +kernel : ∀ t, t < 256 → ¬ (t = 7 ∨ t = 8 ∨ t = 43 ∨ t = 45 ∨ t = 60 ∨ t = 61) → Op.lookupswitch.offset (#[(7, 59), (8, 62), (43, 71), (45, 74), (60, 65), (61, 68)] : Array (Int × Int)).toList 77 (nI t).toInt = 77) t ht h
    refine xv_iload_n (q := 1) rfl dX1_codeOf_0 rfl rfl ?_
    refine xv_lookup (off := 77) (t := 78) dX1_codeOf_1 (by decide) ho rfl ?_
    refine xv_bipush (v := (-13)) (q := 80) rfl dX1_codeOf_78 rfl ?_
    refine xv_iret dX1_codeOf_80 rfl ?_
    exact ⟨by rw [hl], rfl, rfl, rfl, rfl⟩
/-- the code from place c on -/
def CX (K : XI) (c : Nat) (s : List Int32) : Prop := ∀ i, i < s.length → K 19 (c + i) = s.getD i 0
theorem CX.app {K : XI} {c : Nat} {s t : List Int32} (h1 : CX K c s) (h2 : CX K (c + s.length) t) : CX K c (s ++ t) := by
  intro i hi
  rw [List.length_append] at hi
  by_cases h : i < s.length
  · rw [h1 i h, List.getD_eq_getElem?_getD, List.getD_eq_getElem?_getD, List.getElem?_append_left h]
  · have := h2 (i - s.length) (by omega)
    rw [show c + s.length + (i - s.length) = c + i by omega] at this
    rw [this, List.getD_eq_getElem?_getD, List.getD_eq_getElem?_getD, List.getElem?_append_right (by omega)]
theorem CX.one {K : XI} {c : Nat} {x : Int32} (h : K 19 c = x) : CX K c [x] := by
  intro i hi
  have : i = 0 := by simpa using hi
  subst this
  exact h
theorem CX.nil {K : XI} {c : Nat} : CX K c [] := fun i hi => absurd hi (Nat.not_lt_zero i)
theorem CX.mv {K K' : XI} {c : Nat} {s : List Int32} (h : CX K c s) (hk : ∀ i, i < c + s.length → K' 19 i = K 19 i) : CX K' c s := fun i hi => (hk _ (by omega)).trans (h i hi)
/-- the reader stands at the token p, cl numbers of code are laid -/
def PSt (J : XI) (tp : Nat → Nat) (n p cl : Nat) : Prop := RdT J tp n ∧ RdP J tp n p ∧ J 17 7 = nI cl ∧ cl ≤ p ∧ p ≤ n
/-- what has changed, from J with cl numbers of code to K -/
def PFr (J K : XI) (cl : Nat) (s : List Int32) : Prop := K 17 7 = nI (cl + s.length) ∧ (∀ i, i < cl → K 19 i = J 19 i) ∧ CX K cl s
def PQ (r : PR) (cl : Nat) (tp : Nat → Nat) (n : Nat) (sh : XSh) (J : XI) (R : XRf) (L : XL) : XQ := fun v sh' K R' L' => v = some (.int (bI r.1)) ∧ sh' = sh ∧ R' = R ∧ L' = L ∧ (∀ k, k ≠ 17 → k ≠ 19 → K k = J k) ∧ RdT K tp n ∧ RdP K tp n r.2.1 ∧ (r.1 = true → PFr J K cl r.2.2.1)
theorem c_put1 (hg : XG sh R) {cl : Nat} (hc : I 17 7 = nI cl) (hcl : cl < 160) (c : Int32) : XC E mX1_put d 0 0 [.ref 17, .int c] sh I R L (xq (some (.int (nI 1))) sh (xi (xi I 19 cl c) 17 7 (nI (cl + 1))) R L) := by
  refine XC.of (by decide) rfl rfl ?_
  refine xv_aload_n (q := 1) rfl dX1_put_0 rfl rfl ?_
  refine xv_geti (q := 4) rfl dX1_put_1 f_X1_25 (hg.1 _ _ rfl) ?_
  rw [hc]
  refine xv_sipush (v := nI 160) (q := 7) rfl dX1_put_4 rfl ?_
  refine xv_icmp_lt (q := 10) (t := 12) rfl rfl dX1_put_7 (fun h7 => ?_) (fun h7 => ?_)
  · refine xv_aload_n (q := 13) rfl dX1_put_12 rfl rfl ?_
    refine xv_geta (q := 16) rfl dX1_put_13 f_X1_15 (hg.1 _ _ rfl) (hg.2 _ _ _ rfl) ?_
    refine xv_aload_n (q := 17) rfl dX1_put_16 rfl rfl ?_
    refine xv_geti (q := 20) rfl dX1_put_17 f_X1_25 (hg.1 _ _ rfl) ?_
    rw [hc]
    refine xv_iload_n (q := 21) rfl dX1_put_20 rfl rfl ?_
    refine xv_iast (q := 22) rfl dX1_put_21 (hg.1 _ _ rfl) rfl (by omega) (by decide) ?_
    refine xv_aload_n (q := 23) rfl dX1_put_22 rfl rfl ?_
    refine xv_dup (q := 24) rfl dX1_put_23 rfl ?_
    refine xv_geti (q := 27) rfl dX1_put_24 f_X1_25 (hg.1 _ _ rfl) ?_
    rw [xi_off _ _ _ _ (by omega), hc]
    refine xv_iconst (v := nI 1) (q := 28) rfl dX1_put_27 rfl ?_
    refine xv_iadd (q := 29) rfl dX1_put_28 ?_
    refine xv_as (w := nI (cl + 1)) (nI_add _ _) ?_
    refine xv_puti (q := 32) rfl dX1_put_29 f_X1_25 (fun h => by cases h) (hg.1 _ _ rfl) ?_
    refine xv_iconst (v := nI 1) (q := 33) rfl dX1_put_32 rfl ?_
    refine xv_zret (ty := .boolean) dX1_put_33 rfl rfl ?_
    exact xq_rfl
  · exact absurd (nI_lt hcl (by omega)) h7
theorem RdT.put {cl : Nat} {c x : Int32} (h : RdT I tp n) : RdT (xi (xi I 19 cl c) 17 7 x) tp n := by
  refine ⟨?_, h.2.1, fun i hi => ?_⟩
  · rw [xi_ne _ _ _ _ (by omega), xi_off _ _ _ _ (by omega)]; exact h.1
  · rw [xi_off _ _ _ _ (by omega), xi_off _ _ _ _ (by omega)]; exact h.2.2 i hi
theorem RdP.put {cl p : Nat} {c x : Int32} (h : RdP I tp n p) : RdP (xi (xi I 19 cl c) 17 7 x) tp n p := by
  obtain ⟨h1, h2, h3, h4⟩ := h
  refine ⟨?_, ?_, ?_, fun q => ?_⟩
  · rw [xi_ne _ _ _ _ (by omega), xi_off _ _ _ _ (by omega)]; exact h1
  · rw [xi_ne _ _ _ _ (by omega), xi_off _ _ _ _ (by omega)]; exact h2
  · rw [xi_ne _ _ _ _ (by omega), xi_off _ _ _ _ (by omega)]; exact h3
  · rw [xi_ne _ _ _ _ (by omega), xi_off _ _ _ _ (by omega)]; exact h4 q
theorem PFr.put {J K : XI} {cl cl2 : Nat} {s : List Int32} {c : Int32} (h : PFr J K cl s) (e : cl2 = cl + s.length) : PFr J (xi (xi K 19 cl2 c) 17 7 (nI (cl2 + 1))) cl (s ++ [c]) := by
  subst e
  obtain ⟨h1, h2, h3⟩ := h
  refine ⟨?_, fun i hi => ?_, CX.app (h3.mv (fun i hi => ?_)) (CX.one ?_)⟩
  · rw [xi_eq, List.length_append]; rfl
  · rw [xi_off _ _ _ _ (by omega), xi_ne _ _ _ _ (by omega)]; exact h2 i hi
  · rw [xi_off _ _ _ _ (by omega), xi_ne _ _ _ _ (by omega)]
  · rw [xi_off _ _ _ _ (by omega), xi_eq]
theorem PFr.trans {J K M : XI} {cl cl2 : Nat} {s t : List Int32} (h1 : PFr J K cl s) (h2 : PFr K M cl2 t) (e : cl2 = cl + s.length) : PFr J M cl (s ++ t) := by
  subst e
  refine ⟨by rw [List.length_append, ← Nat.add_assoc]; exact h2.1, fun i hi => (h2.2.1 i (by omega)).trans (h1.2.1 i hi), CX.app (h1.2.2.mv (fun i hi => h2.2.1 i hi)) h2.2.2⟩
theorem PFr.stp {J K M : XI} {cl : Nat} {s : List Int32} (h1 : PFr J K cl s) (h2 : RdF K M) : PFr J M cl s := ⟨h2.2.2.trans h1.1, fun i hi => by rw [h2.1 19 (by decide)]; exact h1.2.1 i hi, h1.2.2.mv (fun i _ => by rw [h2.1 19 (by decide)])⟩
theorem PFr.nil {J : XI} {cl : Nat} (h : J 17 7 = nI cl) : PFr J J cl [] := ⟨h, fun _ _ => rfl, CX.nil⟩
theorem RdT.lt {J : XI} (h : RdT J tp n) (p : Nat) : tok tp n p < 256 := tok_lt (fun i hi => (h.2.2 i hi).2)
/-- passes(t) -/
theorem c_passes (hg : XG sh R) {p t : Nat} (hT : RdT I tp n) (hP : RdP I tp n p) (hp : p ≤ n) (ht : t < 256) : XC E mX1_passes (d + 7) 0 0 [.ref 17, .int (nI t)] sh I R L (fun v sh' J R' L' => v = some (.int (bI (decide (tok tp n p = t)))) ∧ sh' = sh ∧ R' = R ∧ L' = L ∧ RdF I J ∧ RdP J tp n (if tok tp n p = t then nxt tp n p else p)) := by
  have htk := hT.lt p
  refine XC.of (by decide) rfl rfl ?_
  refine xv_aload_n (q := 1) rfl dX1_passes_0 rfl rfl ?_
  refine xv_geti (q := 4) rfl dX1_passes_1 f_X1_39 (hg.1 _ _ rfl) ?_
  rw [hP.2.2.1]
  refine xv_iload_n (q := 5) rfl dX1_passes_4 rfl rfl ?_
  refine xv_icmp_eq (q := 8) (t := 10) rfl rfl dX1_passes_5 (fun h5 => ?_) (fun h5 => ?_)
  · have h5 := nIe h5 (by omega) (by omega)
    refine xv_aload_n (q := 11) rfl dX1_passes_10 rfl rfl ?_
    refine xv_rV0 (z := mX1_step) (q := 14) rfl dX1_passes_11 l_X1_28 gX1_step (hg.1 _ _ rfl) rfl rfl rfl (c_step (d := d) hg hT (nxt_le hp) hP.2.1) (by omega) ?_
    rintro _ _ J _ _ ⟨rfl, rfl, rfl, rfl, q1, q2⟩
    refine xv_iconst (v := nI 1) (q := 15) rfl dX1_passes_14 rfl ?_
    refine xv_zret (ty := .boolean) dX1_passes_15 rfl rfl ?_
    exact ⟨by rw [decide_eq_true h5]; rfl, rfl, rfl, rfl, q1, by rw [if_pos h5]; exact q2⟩
  · have h5 : ¬ tok tp n p = t := fun q => h5 (by rw [q])
    refine xv_iconst (v := nI 0) (q := 9) rfl dX1_passes_8 rfl ?_
    refine xv_zret (ty := .boolean) dX1_passes_9 rfl rfl ?_
    exact ⟨by rw [decide_eq_false h5]; rfl, rfl, rfl, rfl, RdF.rf, by rw [if_neg h5]; exact hP⟩
end PARSE

section LEX2
variable {E : XE} {d : Nat} {sh : XSh} {I : XI} {R : XRf} {L : XL} {tp : Nat → Nat} {n : Nat}
theorem dgt_t {p : Nat} (h1 : 48 ≤ tp p) (h2 : tp p ≤ 57) : dgt tp p = true := by unfold dgt; rw [decide_eq_true h1, decide_eq_true h2]; rfl
theorem dgt_of {p : Nat} (h : dgt tp p = true) : 48 ≤ tp p ∧ tp p ≤ 57 := by unfold dgt at h; simpa using h
theorem ltr_t {p : Nat} (h1 : 97 ≤ tp p) (h2 : tp p ≤ 122) : ltr tp p = true := by unfold ltr; rw [decide_eq_true h1, decide_eq_true h2]; rfl
theorem ltr_of {p : Nat} (h : ltr tp p = true) : 97 ≤ tp p ∧ tp p ≤ 122 := by unfold ltr at h; simpa using h
/-- what stepOverDigits leaves -/
def QD (s e : Nat) (tk vl : Nat) (sh : XSh) (I : XI) (R : XRf) (L : XL) : XQ := fun v sh' J R' L' => v = none ∧ sh' = sh ∧ R' = R ∧ L' = L ∧ RdF I J ∧ J 17 2 = nI s ∧ J 17 3 = nI e ∧ J 17 4 = nI tk ∧ J 17 5 = nI vl
theorem c_digits_loop (hg : XG sh R) (hT : RdT I tp n) {s : Nat} (hs : I 17 2 = nI s) : ∀ (k p : Nat) (J : XI), s ≤ p → p ≤ n → n < p + k → RdF I J → J 17 2 = nI s → J 17 3 = nI p → J 17 5 = nI (dgv tp s (p - s)) → scn (dgt tp) n n p = den tp n s → XV E mX1_stepOverDigits d 0 0 (QD s (den tp n s) (if 4 < den tp n s - s then 1 else 2) (dgv tp s (den tp n s - s)) sh I R L) 0 0 5 [some (.ref 17)] [] sh J R L := by
  intro k
  induction k with
  | zero => intro p J _ h1 h2; exact absurd h2 (by omega)
  | succ k ih =>
    intro p J hsp hpn hk hF j2 j3 j5 hsc
    obtain ⟨r1, r2, r3⟩ := hT.mv hF
    have hend : ¬ (p < n ∧ dgt tp p = true) → XV E mX1_stepOverDigits d 0 0 (QD s (den tp n s) (if 4 < den tp n s - s then 1 else 2) (dgv tp s (den tp n s - s)) sh I R L) 0 0 81 [some (.ref 17)] [] sh J R L := by
      intro hst
      have ep : den tp n s = p := by rw [← hsc]; exact scn_stop hst
      rw [ep]
      refine xv_aload_n (q := 82) rfl dX1_stepOverDigits_81 rfl rfl ?_
      refine xv_aload_n (q := 83) rfl dX1_stepOverDigits_82 rfl rfl ?_
      refine xv_geti (q := 86) rfl dX1_stepOverDigits_83 f_X1_21 (hg.1 _ _ rfl) ?_
      rw [j3]
      refine xv_aload_n (q := 87) rfl dX1_stepOverDigits_86 rfl rfl ?_
      refine xv_geti (q := 90) rfl dX1_stepOverDigits_87 f_X1_75 (hg.1 _ _ rfl) ?_
      rw [j2]
      refine xv_isub (q := 91) rfl dX1_stepOverDigits_90 ?_
      refine xv_as (w := nI (p - s)) (pk_sub hsp) ?_
      refine xv_iconst (v := nI 4) (q := 92) rfl dX1_stepOverDigits_91 rfl ?_
      refine xv_icmp_le (q := 95) (t := 99) rfl rfl dX1_stepOverDigits_92 (fun h92 => ?_) (fun h92 => ?_)
      · rw [if_neg (by have := nIle h92 (by omega) (by omega); omega)]
        refine xv_iconst (v := nI 2) (q := 100) rfl dX1_stepOverDigits_99 rfl ?_
        refine xv_puti (q := 103) rfl dX1_stepOverDigits_100 f_X1_39 (fun h => by cases h) (hg.1 _ _ rfl) ?_
        refine xv_vret dX1_stepOverDigits_103 rfl ?_
        exact ⟨rfl, rfl, rfl, rfl, hF.trans (RdF.xi (by decide) (by decide)), by rw [xi_ne _ _ _ _ (by omega)]; exact j2, by rw [xi_ne _ _ _ _ (by omega)]; exact j3, xi_eq _ _ _ _, by rw [xi_ne _ _ _ _ (by omega)]; exact j5⟩
      · rw [if_pos (nInle h92 (by omega) (by omega))]
        refine xv_iconst (v := nI 1) (q := 96) rfl dX1_stepOverDigits_95 rfl ?_
        refine xv_goto (t := 100) rfl dX1_stepOverDigits_96 ?_
        refine xv_puti (q := 103) rfl dX1_stepOverDigits_100 f_X1_39 (fun h => by cases h) (hg.1 _ _ rfl) ?_
        refine xv_vret dX1_stepOverDigits_103 rfl ?_
        exact ⟨rfl, rfl, rfl, rfl, hF.trans (RdF.xi (by decide) (by decide)), by rw [xi_ne _ _ _ _ (by omega)]; exact j2, by rw [xi_ne _ _ _ _ (by omega)]; exact j3, xi_eq _ _ _ _, by rw [xi_ne _ _ _ _ (by omega)]; exact j5⟩
    refine xv_aload_n (q := 6) rfl dX1_stepOverDigits_5 rfl rfl ?_
    refine xv_geti (q := 9) rfl dX1_stepOverDigits_6 f_X1_21 (hg.1 _ _ rfl) ?_
    rw [j3]
    refine xv_aload_n (q := 10) rfl dX1_stepOverDigits_9 rfl rfl ?_
    refine xv_geti (q := 13) rfl dX1_stepOverDigits_10 f_X1_72 (hg.1 _ _ rfl) ?_
    rw [r1]
    refine xv_icmp_ge (q := 16) (t := 81) rfl rfl dX1_stepOverDigits_13 (fun h13 => ?_) (fun h13 => ?_)
    · exact hend (fun z => by have := nIle h13 (by omega) (by omega); omega)
    · have hlt := nInle h13 (by omega) (by omega)
      have hb := (r3 p hlt).2
      refine xv_aload_n (q := 17) rfl dX1_stepOverDigits_16 rfl rfl ?_
      refine xv_geta (q := 20) rfl dX1_stepOverDigits_17 f_X1_9 (hg.1 _ _ rfl) (hg.2 _ _ _ rfl) ?_
      refine xv_aload_n (q := 21) rfl dX1_stepOverDigits_20 rfl rfl ?_
      refine xv_geti (q := 24) rfl dX1_stepOverDigits_21 f_X1_21 (hg.1 _ _ rfl) ?_
      rw [j3]
      refine xv_iald (q := 25) rfl dX1_stepOverDigits_24 (hg.1 _ _ rfl) rfl (by omega) (by decide) ?_
      rw [(r3 p hlt).1]
      refine xv_bipush (v := nI 48) (q := 27) rfl dX1_stepOverDigits_25 rfl ?_
      refine xv_icmp_lt (q := 30) (t := 81) rfl rfl dX1_stepOverDigits_27 (fun h27 => ?_) (fun h27 => ?_)
      · exact hend (fun z => by have := nIlt h27 (by omega) (by omega); have := (dgt_of z.2).1; omega)
      · have h27 := nInlt h27 (by omega) (by omega)
        refine xv_aload_n (q := 31) rfl dX1_stepOverDigits_30 rfl rfl ?_
        refine xv_geta (q := 34) rfl dX1_stepOverDigits_31 f_X1_9 (hg.1 _ _ rfl) (hg.2 _ _ _ rfl) ?_
        refine xv_aload_n (q := 35) rfl dX1_stepOverDigits_34 rfl rfl ?_
        refine xv_geti (q := 38) rfl dX1_stepOverDigits_35 f_X1_21 (hg.1 _ _ rfl) ?_
        rw [j3]
        refine xv_iald (q := 39) rfl dX1_stepOverDigits_38 (hg.1 _ _ rfl) rfl (by omega) (by decide) ?_
        rw [(r3 p hlt).1]
        refine xv_bipush (v := nI 57) (q := 41) rfl dX1_stepOverDigits_39 rfl ?_
        refine xv_icmp_gt (q := 44) (t := 81) rfl rfl dX1_stepOverDigits_41 (fun h41 => ?_) (fun h41 => ?_)
        · exact hend (fun z => by have := nIlt h41 (by omega) (by omega); have := (dgt_of z.2).2; omega)
        · have h41 := nInlt h41 (by omega) (by omega)
          refine xv_aload_n (q := 45) rfl dX1_stepOverDigits_44 rfl rfl ?_
          refine xv_aload_n (q := 46) rfl dX1_stepOverDigits_45 rfl rfl ?_
          refine xv_geti (q := 49) rfl dX1_stepOverDigits_46 f_X1_69 (hg.1 _ _ rfl) ?_
          rw [j5]
          refine xv_bipush (v := nI 10) (q := 51) rfl dX1_stepOverDigits_49 rfl ?_
          refine xv_imul (q := 52) rfl dX1_stepOverDigits_51 ?_
          refine xv_as (w := nI (dgv tp s (p - s) * 10)) (pk_mul _ _) ?_
          refine xv_aload_n (q := 53) rfl dX1_stepOverDigits_52 rfl rfl ?_
          refine xv_geta (q := 56) rfl dX1_stepOverDigits_53 f_X1_9 (hg.1 _ _ rfl) (hg.2 _ _ _ rfl) ?_
          refine xv_aload_n (q := 57) rfl dX1_stepOverDigits_56 rfl rfl ?_
          refine xv_geti (q := 60) rfl dX1_stepOverDigits_57 f_X1_21 (hg.1 _ _ rfl) ?_
          rw [j3]
          refine xv_iald (q := 61) rfl dX1_stepOverDigits_60 (hg.1 _ _ rfl) rfl (by omega) (by decide) ?_
          rw [(r3 p hlt).1]
          refine xv_iadd (q := 62) rfl dX1_stepOverDigits_61 ?_
          refine xv_as (w := nI (dgv tp s (p - s) * 10 + tp p)) (nI_add _ _) ?_
          refine xv_bipush (v := nI 48) (q := 64) rfl dX1_stepOverDigits_62 rfl ?_
          refine xv_isub (q := 65) rfl dX1_stepOverDigits_64 ?_
          refine xv_as (w := nI (dgv tp s (p - s) * 10 + tp p - 48)) (pk_sub (by omega)) ?_
          refine xv_puti (q := 68) rfl dX1_stepOverDigits_65 f_X1_69 (fun h => by cases h) (hg.1 _ _ rfl) ?_
          refine xv_aload_n (q := 69) rfl dX1_stepOverDigits_68 rfl rfl ?_
          refine xv_dup (q := 70) rfl dX1_stepOverDigits_69 rfl ?_
          refine xv_geti (q := 73) rfl dX1_stepOverDigits_70 f_X1_21 (hg.1 _ _ rfl) ?_
          rw [xi_ne _ _ _ _ (by omega), j3]
          refine xv_iconst (v := nI 1) (q := 74) rfl dX1_stepOverDigits_73 rfl ?_
          refine xv_iadd (q := 75) rfl dX1_stepOverDigits_74 ?_
          refine xv_as (w := nI (p + 1)) (nI_add _ _) ?_
          refine xv_puti (q := 78) rfl dX1_stepOverDigits_75 f_X1_21 (fun h => by cases h) (hg.1 _ _ rfl) ?_
          refine xv_goto (t := 5) rfl dX1_stepOverDigits_78 ?_
          refine ih (p + 1) _ (by omega) (by omega) (by omega) ((hF.trans (RdF.xi (by decide) (by decide))).trans (RdF.xi (by decide) (by decide))) ?_ (xi_eq _ _ _ _) ?_ ?_
          · rw [xi_ne _ _ _ _ (by omega), xi_ne _ _ _ _ (by omega)]; exact j2
          · rw [xi_ne _ _ _ _ (by omega), xi_eq, show p + 1 - s = p - s + 1 by omega]
            show _ = nI (dgv tp s (p - s) * 10 + tp (s + (p - s)) - 48)
            rw [show s + (p - s) = p by omega]
          · rw [← hsc]
            exact ((scn_go ⟨hlt, dgt_t h27 h41⟩ (by omega)).trans (scn_eq (by omega) (by omega))).symm
theorem c_digits (hg : XG sh R) (hT : RdT I tp n) {s : Nat} (hsn : s ≤ n) (hs : I 17 2 = nI s) (hs3 : I 17 3 = nI s) : XC E mX1_stepOverDigits d 0 0 [.ref 17] sh I R L (QD s (den tp n s) (if 4 < den tp n s - s then 1 else 2) (dgv tp s (den tp n s - s)) sh I R L) := by
  refine XC.of (by decide) rfl rfl ?_
  refine xv_aload_n (q := 1) rfl dX1_stepOverDigits_0 rfl rfl ?_
  refine xv_iconst (v := nI 0) (q := 2) rfl dX1_stepOverDigits_1 rfl ?_
  refine xv_puti (q := 5) rfl dX1_stepOverDigits_2 f_X1_69 (fun h => by cases h) (hg.1 _ _ rfl) ?_
  refine c_digits_loop hg hT hs (n + 1) s _ (Nat.le_refl s) hsn (by omega) (RdF.xi (by decide) (by decide)) ?_ ?_ ?_ rfl
  · rw [xi_ne _ _ _ _ (by omega)]; exact hs
  · rw [xi_ne _ _ _ _ (by omega)]; exact hs3
  · rw [xi_eq, Nat.sub_self]; rfl
def QWd (s e : Nat) (w : Nat) (sh : XSh) (I : XI) (R : XRf) (L : XL) : XQ := fun v sh' J R' L' => v = none ∧ sh' = sh ∧ R' = R ∧ L' = L ∧ RdF I J ∧ J 17 2 = nI s ∧ J 17 3 = nI e ∧ J 17 4 = nI (wtk w) ∧ (w < 12 → J 17 5 = nI w)
theorem c_word_loop (hg : XG sh R) (hT : RdT I tp n) {s e : Nat} (hse : s ≤ e) (hen : e ≤ n) : ∀ (k w : Nat) (J : XI), w ≤ 12 → 12 < w + k → RdF I J → J 17 2 = nI s → J 17 3 = nI e → J 17 4 = nI (wtk (kno tp s e w)) → (kno tp s e w < 12 → J 17 5 = nI (kno tp s e w)) → XV E mX1_stepOverWord (d + 5) 0 0 (QWd s e (kno tp s e 12) sh I R L) 0 0 59 [some (.ref 17), some (.int (nI w))] [] sh J R L := by
  intro k
  induction k with
  | zero => intro w J h1 h2; exact absurd h2 (by omega)
  | succ k ih =>
    intro w J hw hk hF j2 j3 j4 j5
    refine xv_iload_n (q := 60) rfl dX1_stepOverWord_59 rfl rfl ?_
    refine xv_bipush (v := nI 12) (q := 62) rfl dX1_stepOverWord_60 rfl ?_
    refine xv_icmp_ge (q := 65) (t := 107) rfl rfl dX1_stepOverWord_62 (fun h62 => ?_) (fun h62 => ?_)
    · have hw12 : w = 12 := by have := nIle h62 (by omega) (by omega); omega
      refine xv_vret dX1_stepOverWord_107 rfl ?_
      subst hw12
      exact ⟨rfl, rfl, rfl, rfl, hF, j2, j3, j4, j5⟩
    · have hw12 := nInle h62 (by omega) (by omega)
      refine xv_aload_n (q := 66) rfl dX1_stepOverWord_65 rfl rfl ?_
      refine xv_iload_n (q := 67) rfl dX1_stepOverWord_66 rfl rfl ?_
      refine xv_cS1 (z := mX1_knownWord) (q := 70) rfl dX1_stepOverWord_67 l_X1_87 gX1_knownWord rfl (c_knownWord (d := d + 4) hw12) (by omega) ?_
      refine xv_cV1 (z := mX1_isWord) (q := 73) rfl dX1_stepOverWord_70 l_X1_91 gX1_isWord (hg.1 _ _ rfl) rfl rfl rfl (c_isWord (d := d) hg (hT.mv hF) hw12 j2 j3 hse hen) (by omega) ?_
      refine xv_if_eq (q := 76) (t := 101) rfl rfl dX1_stepOverWord_73 (fun h73 => ?_) (fun h73 => ?_)
      · have h73 := bIz h73
        refine xv_iinc (q := 104) (v := nI 1) rfl dX1_stepOverWord_101 rfl rfl ?_
        refine xv_goto (t := 59) rfl dX1_stepOverWord_104 ?_
        have ek : kno tp s e (w + 1) = kno tp s e w := if_neg (by rw [h73]; decide)
        rw [nI_add]
        exact ih (w + 1) _ (by omega) (by omega) hF j2 j3 (by rw [ek]; exact j4) (by rw [ek]; exact j5)
      · have h73 := bIn h73
        refine xv_aload_n (q := 77) rfl dX1_stepOverWord_76 rfl rfl ?_
        refine xv_iload_n (q := 78) rfl dX1_stepOverWord_77 rfl rfl ?_
        refine xv_bipush (v := nI 6) (q := 80) rfl dX1_stepOverWord_78 rfl ?_
        refine xv_icmp_ge (q := 83) (t := 87) rfl rfl dX1_stepOverWord_80 (fun h80 => ?_) (fun h80 => ?_)
        · have h80 := nIle h80 (by omega) (by omega)
          refine xv_iconst (v := nI 4) (q := 88) rfl dX1_stepOverWord_87 rfl ?_
          refine xv_iload_n (q := 89) rfl dX1_stepOverWord_88 rfl rfl ?_
          refine xv_iadd (q := 90) rfl dX1_stepOverWord_89 ?_
          refine xv_as (w := nI (4 + w)) (nI_add _ _) ?_
          refine xv_bipush (v := nI 6) (q := 92) rfl dX1_stepOverWord_90 rfl ?_
          refine xv_isub (q := 93) rfl dX1_stepOverWord_92 ?_
          refine xv_as (w := nI (4 + w - 6)) (pk_sub (by omega)) ?_
          refine xv_puti (q := 96) rfl dX1_stepOverWord_93 f_X1_39 (fun h => by cases h) (hg.1 _ _ rfl) ?_
          refine xv_aload_n (q := 97) rfl dX1_stepOverWord_96 rfl rfl ?_
          refine xv_iload_n (q := 98) rfl dX1_stepOverWord_97 rfl rfl ?_
          refine xv_puti (q := 101) rfl dX1_stepOverWord_98 f_X1_69 (fun h => by cases h) (hg.1 _ _ rfl) ?_
          refine xv_iinc (q := 104) (v := nI 1) rfl dX1_stepOverWord_101 rfl rfl ?_
          refine xv_goto (t := 59) rfl dX1_stepOverWord_104 ?_
          have ek : kno tp s e (w + 1) = w := if_pos h73
          rw [nI_add]
          refine ih (w + 1) _ (by omega) (by omega) ((hF.trans (RdF.xi (by decide) (by decide))).trans (RdF.xi (by decide) (by decide))) ?_ ?_ ?_ (fun _ => by rw [ek]; exact xi_eq _ _ _ _)
          · rw [xi_ne _ _ _ _ (by omega), xi_ne _ _ _ _ (by omega)]; exact j2
          · rw [xi_ne _ _ _ _ (by omega), xi_ne _ _ _ _ (by omega)]; exact j3
          · rw [ek, xi_ne _ _ _ _ (by omega), xi_eq]
            unfold wtk
            rw [if_neg (by omega), if_pos (by omega), show 4 + w - 6 = w - 2 by omega]
        · have h80 := nInle h80 (by omega) (by omega)
          refine xv_iconst (v := nI 3) (q := 84) rfl dX1_stepOverWord_83 rfl ?_
          refine xv_goto (t := 93) rfl dX1_stepOverWord_84 ?_
          refine xv_puti (q := 96) rfl dX1_stepOverWord_93 f_X1_39 (fun h => by cases h) (hg.1 _ _ rfl) ?_
          refine xv_aload_n (q := 97) rfl dX1_stepOverWord_96 rfl rfl ?_
          refine xv_iload_n (q := 98) rfl dX1_stepOverWord_97 rfl rfl ?_
          refine xv_puti (q := 101) rfl dX1_stepOverWord_98 f_X1_69 (fun h => by cases h) (hg.1 _ _ rfl) ?_
          refine xv_iinc (q := 104) (v := nI 1) rfl dX1_stepOverWord_101 rfl rfl ?_
          refine xv_goto (t := 59) rfl dX1_stepOverWord_104 ?_
          have ek : kno tp s e (w + 1) = w := if_pos h73
          rw [nI_add]
          refine ih (w + 1) _ (by omega) (by omega) ((hF.trans (RdF.xi (by decide) (by decide))).trans (RdF.xi (by decide) (by decide))) ?_ ?_ ?_ (fun _ => by rw [ek]; exact xi_eq _ _ _ _)
          · rw [xi_ne _ _ _ _ (by omega), xi_ne _ _ _ _ (by omega)]; exact j2
          · rw [xi_ne _ _ _ _ (by omega), xi_ne _ _ _ _ (by omega)]; exact j3
          · rw [ek, xi_ne _ _ _ _ (by omega), xi_eq]
            unfold wtk
            rw [if_pos h80]
theorem c_word_skip (hg : XG sh R) (hT : RdT I tp n) {s : Nat} : ∀ (k p : Nat) (J : XI), s ≤ p → p ≤ n → n < p + k → RdF I J → J 17 2 = nI s → J 17 3 = nI p → scn (ltr tp) n n p = wen tp n s → XV E mX1_stepOverWord (d + 5) 0 0 (QWd s (wen tp n s) (kno tp s (wen tp n s) 12) sh I R L) 0 0 0 [some (.ref 17), none] [] sh J R L := by
  intro k
  induction k with
  | zero => intro p J _ h1 h2; exact absurd h2 (by omega)
  | succ k ih =>
    intro p J hsp hpn hk hF j2 j3 hsc
    obtain ⟨r1, r2, r3⟩ := hT.mv hF
    have hend : ¬ (p < n ∧ ltr tp p = true) → XV E mX1_stepOverWord (d + 5) 0 0 (QWd s (wen tp n s) (kno tp s (wen tp n s) 12) sh I R L) 0 0 52 [some (.ref 17), none] [] sh J R L := by
      intro hst
      have ep : wen tp n s = p := by rw [← hsc]; exact scn_stop hst
      rw [ep]
      refine xv_aload_n (q := 53) rfl dX1_stepOverWord_52 rfl rfl ?_
      refine xv_iconst (v := nI 1) (q := 54) rfl dX1_stepOverWord_53 rfl ?_
      refine xv_puti (q := 57) rfl dX1_stepOverWord_54 f_X1_39 (fun h => by cases h) (hg.1 _ _ rfl) ?_
      refine xv_iconst (v := nI 0) (q := 58) rfl dX1_stepOverWord_57 rfl ?_
      refine xv_istore_n (q := 59) rfl dX1_stepOverWord_58 rfl rfl ?_
      refine c_word_loop hg hT hsp hpn 13 0 _ (by omega) (by omega) (hF.trans (RdF.xi (by decide) (by decide))) ?_ ?_ ?_ (fun h => absurd h (by show ¬ 12 < 12; omega))
      · rw [xi_ne _ _ _ _ (by omega)]; exact j2
      · rw [xi_ne _ _ _ _ (by omega)]; exact j3
      · rw [xi_eq]; rfl
    refine xv_aload_n (q := 1) rfl dX1_stepOverWord_0 rfl rfl ?_
    refine xv_geti (q := 4) rfl dX1_stepOverWord_1 f_X1_21 (hg.1 _ _ rfl) ?_
    rw [j3]
    refine xv_aload_n (q := 5) rfl dX1_stepOverWord_4 rfl rfl ?_
    refine xv_geti (q := 8) rfl dX1_stepOverWord_5 f_X1_72 (hg.1 _ _ rfl) ?_
    rw [r1]
    refine xv_icmp_ge (q := 11) (t := 52) rfl rfl dX1_stepOverWord_8 (fun h8 => ?_) (fun h8 => ?_)
    · exact hend (fun z => by have := nIle h8 (by omega) (by omega); omega)
    · have hlt := nInle h8 (by omega) (by omega)
      have hb := (r3 p hlt).2
      refine xv_aload_n (q := 12) rfl dX1_stepOverWord_11 rfl rfl ?_
      refine xv_geta (q := 15) rfl dX1_stepOverWord_12 f_X1_9 (hg.1 _ _ rfl) (hg.2 _ _ _ rfl) ?_
      refine xv_aload_n (q := 16) rfl dX1_stepOverWord_15 rfl rfl ?_
      refine xv_geti (q := 19) rfl dX1_stepOverWord_16 f_X1_21 (hg.1 _ _ rfl) ?_
      rw [j3]
      refine xv_iald (q := 20) rfl dX1_stepOverWord_19 (hg.1 _ _ rfl) rfl (by omega) (by decide) ?_
      rw [(r3 p hlt).1]
      refine xv_bipush (v := nI 97) (q := 22) rfl dX1_stepOverWord_20 rfl ?_
      refine xv_icmp_lt (q := 25) (t := 52) rfl rfl dX1_stepOverWord_22 (fun h22 => ?_) (fun h22 => ?_)
      · exact hend (fun z => by have := nIlt h22 (by omega) (by omega); have := (ltr_of z.2).1; omega)
      · have h22 := nInlt h22 (by omega) (by omega)
        refine xv_aload_n (q := 26) rfl dX1_stepOverWord_25 rfl rfl ?_
        refine xv_geta (q := 29) rfl dX1_stepOverWord_26 f_X1_9 (hg.1 _ _ rfl) (hg.2 _ _ _ rfl) ?_
        refine xv_aload_n (q := 30) rfl dX1_stepOverWord_29 rfl rfl ?_
        refine xv_geti (q := 33) rfl dX1_stepOverWord_30 f_X1_21 (hg.1 _ _ rfl) ?_
        rw [j3]
        refine xv_iald (q := 34) rfl dX1_stepOverWord_33 (hg.1 _ _ rfl) rfl (by omega) (by decide) ?_
        rw [(r3 p hlt).1]
        refine xv_bipush (v := nI 122) (q := 36) rfl dX1_stepOverWord_34 rfl ?_
        refine xv_icmp_gt (q := 39) (t := 52) rfl rfl dX1_stepOverWord_36 (fun h36 => ?_) (fun h36 => ?_)
        · exact hend (fun z => by have := nIlt h36 (by omega) (by omega); have := (ltr_of z.2).2; omega)
        · have h36 := nInlt h36 (by omega) (by omega)
          refine xv_aload_n (q := 40) rfl dX1_stepOverWord_39 rfl rfl ?_
          refine xv_dup (q := 41) rfl dX1_stepOverWord_40 rfl ?_
          refine xv_geti (q := 44) rfl dX1_stepOverWord_41 f_X1_21 (hg.1 _ _ rfl) ?_
          rw [j3]
          refine xv_iconst (v := nI 1) (q := 45) rfl dX1_stepOverWord_44 rfl ?_
          refine xv_iadd (q := 46) rfl dX1_stepOverWord_45 ?_
          refine xv_as (w := nI (p + 1)) (nI_add _ _) ?_
          refine xv_puti (q := 49) rfl dX1_stepOverWord_46 f_X1_21 (fun h => by cases h) (hg.1 _ _ rfl) ?_
          refine xv_goto (t := 0) rfl dX1_stepOverWord_49 ?_
          refine ih (p + 1) _ (by omega) (by omega) (by omega) (hF.trans (RdF.xi (by decide) (by decide))) ?_ (xi_eq _ _ _ _) ?_
          · rw [xi_ne _ _ _ _ (by omega)]; exact j2
          · rw [← hsc]
            exact ((scn_go ⟨hlt, ltr_t h22 h36⟩ (by omega)).trans (scn_eq (by omega) (by omega))).symm
theorem c_word (hg : XG sh R) (hT : RdT I tp n) {s : Nat} (hsn : s ≤ n) (hs : I 17 2 = nI s) (hs3 : I 17 3 = nI s) : XC E mX1_stepOverWord (d + 5) 0 0 [.ref 17] sh I R L (QWd s (wen tp n s) (kno tp s (wen tp n s) 12) sh I R L) := by
  refine XC.of (by decide) rfl rfl ?_
  exact c_word_skip hg hT (n + 1) s I (Nat.le_refl s) hsn (by omega) RdF.rf hs hs3 rfl
/-- the present token is the one at p -/
def RdP (J : XI) (tp : Nat → Nat) (n p : Nat) : Prop := J 17 2 = nI (sta tp n p) ∧ J 17 3 = nI (nxt tp n p) ∧ J 17 4 = nI (tok tp n p) ∧ ((tok tp n p = 2 ∨ tok tp n p = 3) → J 17 5 = nI (vlu tp n p))
def QSt (tp : Nat → Nat) (n p : Nat) (sh : XSh) (I : XI) (R : XRf) (L : XL) : XQ := fun v sh' J R' L' => v = none ∧ sh' = sh ∧ R' = R ∧ L' = L ∧ RdF I J ∧ RdP J tp n p
theorem wtk_n {w : Nat} (h : wtk w = 2 ∨ wtk w = 3) : w < 12 := by
  unfold wtk at h
  split at h
  · omega
  · split at h
    · omega
    · omega
theorem c_step_skip (hg : XG sh R) (hT : RdT I tp n) {p0 : Nat} : ∀ (k p : Nat) (J : XI), p ≤ n → n < p + k → RdF I J → J 17 3 = nI p → scn (blk tp) n n p = sta tp n p0 → XV E mX1_step (d + 6) 0 0 (QSt tp n p0 sh I R L) 0 0 0 [some (.ref 17), none] [] sh J R L := by
  intro k
  induction k with
  | zero => intro p J h1 h2; exact absurd h2 (by omega)
  | succ k ih =>
    intro p J hpn hk hF j3 hsc
    obtain ⟨r1, r2, r3⟩ := hT.mv hF
    have hend : ¬ (p < n ∧ blk tp p = true) → XV E mX1_step (d + 6) 0 0 (QSt tp n p0 sh I R L) 0 0 52 [some (.ref 17), none] [] sh J R L := by
      intro hst
      have ep : sta tp n p0 = p := by rw [← hsc]; exact scn_stop hst
      refine xv_aload_n (q := 53) rfl dX1_step_52 rfl rfl ?_
      refine xv_aload_n (q := 54) rfl dX1_step_53 rfl rfl ?_
      refine xv_geti (q := 57) rfl dX1_step_54 f_X1_21 (hg.1 _ _ rfl) ?_
      rw [j3]
      refine xv_puti (q := 60) rfl dX1_step_57 f_X1_75 (fun h => by cases h) (hg.1 _ _ rfl) ?_
      refine xv_aload_n (q := 61) rfl dX1_step_60 rfl rfl ?_
      refine xv_geti (q := 64) rfl dX1_step_61 f_X1_21 (hg.1 _ _ rfl) ?_
      rw [xi_ne _ _ _ _ (by omega), j3]
      refine xv_aload_n (q := 65) rfl dX1_step_64 rfl rfl ?_
      refine xv_geti (q := 68) rfl dX1_step_65 f_X1_72 (hg.1 _ _ rfl) ?_
      rw [xi_ne _ _ _ _ (by omega), r1]
      refine xv_icmp_lt (q := 71) (t := 77) rfl rfl dX1_step_68 (fun h68 => ?_) (fun h68 => ?_)
      · have hlt := nIlt h68 (by omega) (by omega)
        have hb := (r3 p hlt).2
        refine xv_aload_n (q := 78) rfl dX1_step_77 rfl rfl ?_
        refine xv_geta (q := 81) rfl dX1_step_78 f_X1_9 (hg.1 _ _ rfl) (hg.2 _ _ _ rfl) ?_
        refine xv_aload_n (q := 82) rfl dX1_step_81 rfl rfl ?_
        refine xv_geti (q := 85) rfl dX1_step_82 f_X1_21 (hg.1 _ _ rfl) ?_
        rw [xi_ne _ _ _ _ (by omega), j3]
        refine xv_iald (q := 86) rfl dX1_step_85 (hg.1 _ _ rfl) rfl (by omega) (by decide) ?_
        rw [xi_off _ _ _ _ (by omega), (r3 p hlt).1]
        refine xv_istore_n (q := 87) rfl dX1_step_86 rfl rfl ?_
        refine xv_iload_n (q := 88) rfl dX1_step_87 rfl rfl ?_
        refine xv_bipush (v := nI 97) (q := 90) rfl dX1_step_88 rfl ?_
        refine xv_icmp_lt (q := 93) (t := 106) rfl rfl dX1_step_90 (fun h90 => ?_) (fun h90 => ?_)
        · have h90 := nIlt h90 (by omega) (by omega)
          have hl : ¬ ltr tp p = true := fun z => by have := (ltr_of z).1; omega
          refine xv_iload_n (q := 107) rfl dX1_step_106 rfl rfl ?_
          refine xv_bipush (v := nI 48) (q := 109) rfl dX1_step_107 rfl ?_
          refine xv_icmp_lt (q := 112) (t := 125) rfl rfl dX1_step_109 (fun h109 => ?_) (fun h109 => ?_)
          · have h109 := nIlt h109 (by omega) (by omega)
            have hdg : ¬ dgt tp p = true := fun z => by have := (dgt_of z).1; omega
            refine xv_aload_n (q := 126) rfl dX1_step_125 rfl rfl ?_
            refine xv_dup (q := 127) rfl dX1_step_126 rfl ?_
            refine xv_geti (q := 130) rfl dX1_step_127 f_X1_21 (hg.1 _ _ rfl) ?_
            rw [xi_ne _ _ _ _ (by omega), j3]
            refine xv_iconst (v := nI 1) (q := 131) rfl dX1_step_130 rfl ?_
            refine xv_iadd (q := 132) rfl dX1_step_131 ?_
            refine xv_as (w := nI (p + 1)) (nI_add _ _) ?_
            refine xv_puti (q := 135) rfl dX1_step_132 f_X1_21 (fun h => by cases h) (hg.1 _ _ rfl) ?_
            refine xv_aload_n (q := 136) rfl dX1_step_135 rfl rfl ?_
            refine xv_iload_n (q := 137) rfl dX1_step_136 rfl rfl ?_
            refine xv_cS1 (z := mX1_isSign) (q := 140) rfl dX1_step_137 l_X1_84 gX1_isSign rfl (c_isSign (d := d) hb) (by omega) ?_
            refine xv_if_eq (q := 143) (t := 147) rfl rfl dX1_step_140 (fun h140 => ?_) (fun h140 => ?_)
            · have h140 := bIz h140
              refine xv_iconst (v := nI 1) (q := 148) rfl dX1_step_147 rfl ?_
              refine xv_puti (q := 151) rfl dX1_step_148 f_X1_39 (fun h => by cases h) (hg.1 _ _ rfl) ?_
              refine xv_vret dX1_step_151 rfl ?_
              have e1 : tok tp n p0 = 1 := by unfold tok; rw [ep, if_neg (by omega), if_neg hl, if_neg hdg]; exact if_neg (by rw [h140]; decide)
              have e2 : nxt tp n p0 = p + 1 := by unfold nxt; rw [ep, if_neg (by omega), if_neg hl, if_neg hdg]
              refine ⟨rfl, rfl, rfl, rfl, ((hF.trans (RdF.xi (by decide) (by decide))).trans (RdF.xi (by decide) (by decide))).trans (RdF.xi (by decide) (by decide)), ?_, ?_, ?_, fun q => ?_⟩
              · rw [ep, xi_ne _ _ _ _ (by omega), xi_ne _ _ _ _ (by omega), xi_eq]
              · rw [e2, xi_ne _ _ _ _ (by omega), xi_eq]
              · rw [e1, xi_eq]
              · rw [e1] at q
                exact absurd q (by omega)
            · have h140 := bIn h140
              refine xv_iload_n (q := 144) rfl dX1_step_143 rfl rfl ?_
              refine xv_goto (t := 148) rfl dX1_step_144 ?_
              refine xv_puti (q := 151) rfl dX1_step_148 f_X1_39 (fun h => by cases h) (hg.1 _ _ rfl) ?_
              refine xv_vret dX1_step_151 rfl ?_
              have e1 : tok tp n p0 = tp p := by unfold tok; rw [ep, if_neg (by omega), if_neg hl, if_neg hdg]; exact if_pos h140
              have e2 : nxt tp n p0 = p + 1 := by unfold nxt; rw [ep, if_neg (by omega), if_neg hl, if_neg hdg]
              refine ⟨rfl, rfl, rfl, rfl, ((hF.trans (RdF.xi (by decide) (by decide))).trans (RdF.xi (by decide) (by decide))).trans (RdF.xi (by decide) (by decide)), ?_, ?_, ?_, fun q => ?_⟩
              · rw [ep, xi_ne _ _ _ _ (by omega), xi_ne _ _ _ _ (by omega), xi_eq]
              · rw [e2, xi_ne _ _ _ _ (by omega), xi_eq]
              · rw [e1, xi_eq]
              · rw [e1] at q
                exact absurd q (fun q => by unfold sgn at h140; simp at h140; omega)
          · have h109 := nInlt h109 (by omega) (by omega)
            refine xv_iload_n (q := 113) rfl dX1_step_112 rfl rfl ?_
            refine xv_bipush (v := nI 57) (q := 115) rfl dX1_step_113 rfl ?_
            refine xv_icmp_gt (q := 118) (t := 125) rfl rfl dX1_step_115 (fun h115 => ?_) (fun h115 => ?_)
            · have h115 := nIlt h115 (by omega) (by omega)
              have hdg : ¬ dgt tp p = true := fun z => by have := (dgt_of z).2; omega
              refine xv_aload_n (q := 126) rfl dX1_step_125 rfl rfl ?_
              refine xv_dup (q := 127) rfl dX1_step_126 rfl ?_
              refine xv_geti (q := 130) rfl dX1_step_127 f_X1_21 (hg.1 _ _ rfl) ?_
              rw [xi_ne _ _ _ _ (by omega), j3]
              refine xv_iconst (v := nI 1) (q := 131) rfl dX1_step_130 rfl ?_
              refine xv_iadd (q := 132) rfl dX1_step_131 ?_
              refine xv_as (w := nI (p + 1)) (nI_add _ _) ?_
              refine xv_puti (q := 135) rfl dX1_step_132 f_X1_21 (fun h => by cases h) (hg.1 _ _ rfl) ?_
              refine xv_aload_n (q := 136) rfl dX1_step_135 rfl rfl ?_
              refine xv_iload_n (q := 137) rfl dX1_step_136 rfl rfl ?_
              refine xv_cS1 (z := mX1_isSign) (q := 140) rfl dX1_step_137 l_X1_84 gX1_isSign rfl (c_isSign (d := d) hb) (by omega) ?_
              refine xv_if_eq (q := 143) (t := 147) rfl rfl dX1_step_140 (fun h140 => ?_) (fun h140 => ?_)
              · have h140 := bIz h140
                refine xv_iconst (v := nI 1) (q := 148) rfl dX1_step_147 rfl ?_
                refine xv_puti (q := 151) rfl dX1_step_148 f_X1_39 (fun h => by cases h) (hg.1 _ _ rfl) ?_
                refine xv_vret dX1_step_151 rfl ?_
                have e1 : tok tp n p0 = 1 := by unfold tok; rw [ep, if_neg (by omega), if_neg hl, if_neg hdg]; exact if_neg (by rw [h140]; decide)
                have e2 : nxt tp n p0 = p + 1 := by unfold nxt; rw [ep, if_neg (by omega), if_neg hl, if_neg hdg]
                refine ⟨rfl, rfl, rfl, rfl, ((hF.trans (RdF.xi (by decide) (by decide))).trans (RdF.xi (by decide) (by decide))).trans (RdF.xi (by decide) (by decide)), ?_, ?_, ?_, fun q => ?_⟩
                · rw [ep, xi_ne _ _ _ _ (by omega), xi_ne _ _ _ _ (by omega), xi_eq]
                · rw [e2, xi_ne _ _ _ _ (by omega), xi_eq]
                · rw [e1, xi_eq]
                · rw [e1] at q
                  exact absurd q (by omega)
              · have h140 := bIn h140
                refine xv_iload_n (q := 144) rfl dX1_step_143 rfl rfl ?_
                refine xv_goto (t := 148) rfl dX1_step_144 ?_
                refine xv_puti (q := 151) rfl dX1_step_148 f_X1_39 (fun h => by cases h) (hg.1 _ _ rfl) ?_
                refine xv_vret dX1_step_151 rfl ?_
                have e1 : tok tp n p0 = tp p := by unfold tok; rw [ep, if_neg (by omega), if_neg hl, if_neg hdg]; exact if_pos h140
                have e2 : nxt tp n p0 = p + 1 := by unfold nxt; rw [ep, if_neg (by omega), if_neg hl, if_neg hdg]
                refine ⟨rfl, rfl, rfl, rfl, ((hF.trans (RdF.xi (by decide) (by decide))).trans (RdF.xi (by decide) (by decide))).trans (RdF.xi (by decide) (by decide)), ?_, ?_, ?_, fun q => ?_⟩
                · rw [ep, xi_ne _ _ _ _ (by omega), xi_ne _ _ _ _ (by omega), xi_eq]
                · rw [e2, xi_ne _ _ _ _ (by omega), xi_eq]
                · rw [e1, xi_eq]
                · rw [e1] at q
                  exact absurd q (fun q => by unfold sgn at h140; simp at h140; omega)
            · have h115 := nInlt h115 (by omega) (by omega)
              have hdg : dgt tp p = true := dgt_t h109 h115
              refine xv_aload_n (q := 119) rfl dX1_step_118 rfl rfl ?_
              refine xv_rV0 (z := mX1_stepOverDigits) (q := 122) rfl dX1_step_119 l_X1_81 gX1_stepOverDigits (hg.1 _ _ rfl) rfl rfl rfl (c_digits (d := d) hg (hT.mv (hF.trans (RdF.xi (by decide) (by decide)))) (Nat.le_of_lt hlt) (xi_eq _ _ _ _) (by rw [xi_ne _ _ _ _ (by omega)]; exact j3)) (by omega) ?_
              rintro _ _ K _ _ ⟨rfl, rfl, rfl, rfl, q1, q2, q3, q4, q5⟩
              refine xv_goto (t := 151) rfl dX1_step_122 ?_
              refine xv_vret dX1_step_151 rfl ?_
              have e1 : tok tp n p0 = if 4 < den tp n p - p then 1 else 2 := by unfold tok; rw [ep, if_neg (by omega), if_neg hl, if_pos hdg]
              have e2 : nxt tp n p0 = den tp n p := by unfold nxt; rw [ep, if_neg (by omega), if_neg hl, if_pos hdg]
              have e3 : vlu tp n p0 = dgv tp p (den tp n p - p) := by unfold vlu; rw [ep, if_neg hl]
              exact ⟨rfl, rfl, rfl, rfl, (hF.trans (RdF.xi (by decide) (by decide))).trans q1, by rw [ep]; exact q2, by rw [e2]; exact q3, by rw [e1]; exact q4, fun _ => by rw [e3]; exact q5⟩
        · have h90 := nInlt h90 (by omega) (by omega)
          refine xv_iload_n (q := 94) rfl dX1_step_93 rfl rfl ?_
          refine xv_bipush (v := nI 122) (q := 96) rfl dX1_step_94 rfl ?_
          refine xv_icmp_gt (q := 99) (t := 106) rfl rfl dX1_step_96 (fun h96 => ?_) (fun h96 => ?_)
          · have h96 := nIlt h96 (by omega) (by omega)
            have hl : ¬ ltr tp p = true := fun z => by have := (ltr_of z).2; omega
            refine xv_iload_n (q := 107) rfl dX1_step_106 rfl rfl ?_
            refine xv_bipush (v := nI 48) (q := 109) rfl dX1_step_107 rfl ?_
            refine xv_icmp_lt (q := 112) (t := 125) rfl rfl dX1_step_109 (fun h109 => ?_) (fun h109 => ?_)
            · have h109 := nIlt h109 (by omega) (by omega)
              have hdg : ¬ dgt tp p = true := fun z => by have := (dgt_of z).1; omega
              refine xv_aload_n (q := 126) rfl dX1_step_125 rfl rfl ?_
              refine xv_dup (q := 127) rfl dX1_step_126 rfl ?_
              refine xv_geti (q := 130) rfl dX1_step_127 f_X1_21 (hg.1 _ _ rfl) ?_
              rw [xi_ne _ _ _ _ (by omega), j3]
              refine xv_iconst (v := nI 1) (q := 131) rfl dX1_step_130 rfl ?_
              refine xv_iadd (q := 132) rfl dX1_step_131 ?_
              refine xv_as (w := nI (p + 1)) (nI_add _ _) ?_
              refine xv_puti (q := 135) rfl dX1_step_132 f_X1_21 (fun h => by cases h) (hg.1 _ _ rfl) ?_
              refine xv_aload_n (q := 136) rfl dX1_step_135 rfl rfl ?_
              refine xv_iload_n (q := 137) rfl dX1_step_136 rfl rfl ?_
              refine xv_cS1 (z := mX1_isSign) (q := 140) rfl dX1_step_137 l_X1_84 gX1_isSign rfl (c_isSign (d := d) hb) (by omega) ?_
              refine xv_if_eq (q := 143) (t := 147) rfl rfl dX1_step_140 (fun h140 => ?_) (fun h140 => ?_)
              · have h140 := bIz h140
                refine xv_iconst (v := nI 1) (q := 148) rfl dX1_step_147 rfl ?_
                refine xv_puti (q := 151) rfl dX1_step_148 f_X1_39 (fun h => by cases h) (hg.1 _ _ rfl) ?_
                refine xv_vret dX1_step_151 rfl ?_
                have e1 : tok tp n p0 = 1 := by unfold tok; rw [ep, if_neg (by omega), if_neg hl, if_neg hdg]; exact if_neg (by rw [h140]; decide)
                have e2 : nxt tp n p0 = p + 1 := by unfold nxt; rw [ep, if_neg (by omega), if_neg hl, if_neg hdg]
                refine ⟨rfl, rfl, rfl, rfl, ((hF.trans (RdF.xi (by decide) (by decide))).trans (RdF.xi (by decide) (by decide))).trans (RdF.xi (by decide) (by decide)), ?_, ?_, ?_, fun q => ?_⟩
                · rw [ep, xi_ne _ _ _ _ (by omega), xi_ne _ _ _ _ (by omega), xi_eq]
                · rw [e2, xi_ne _ _ _ _ (by omega), xi_eq]
                · rw [e1, xi_eq]
                · rw [e1] at q
                  exact absurd q (by omega)
              · have h140 := bIn h140
                refine xv_iload_n (q := 144) rfl dX1_step_143 rfl rfl ?_
                refine xv_goto (t := 148) rfl dX1_step_144 ?_
                refine xv_puti (q := 151) rfl dX1_step_148 f_X1_39 (fun h => by cases h) (hg.1 _ _ rfl) ?_
                refine xv_vret dX1_step_151 rfl ?_
                have e1 : tok tp n p0 = tp p := by unfold tok; rw [ep, if_neg (by omega), if_neg hl, if_neg hdg]; exact if_pos h140
                have e2 : nxt tp n p0 = p + 1 := by unfold nxt; rw [ep, if_neg (by omega), if_neg hl, if_neg hdg]
                refine ⟨rfl, rfl, rfl, rfl, ((hF.trans (RdF.xi (by decide) (by decide))).trans (RdF.xi (by decide) (by decide))).trans (RdF.xi (by decide) (by decide)), ?_, ?_, ?_, fun q => ?_⟩
                · rw [ep, xi_ne _ _ _ _ (by omega), xi_ne _ _ _ _ (by omega), xi_eq]
                · rw [e2, xi_ne _ _ _ _ (by omega), xi_eq]
                · rw [e1, xi_eq]
                · rw [e1] at q
                  exact absurd q (fun q => by unfold sgn at h140; simp at h140; omega)
            · have h109 := nInlt h109 (by omega) (by omega)
              refine xv_iload_n (q := 113) rfl dX1_step_112 rfl rfl ?_
              refine xv_bipush (v := nI 57) (q := 115) rfl dX1_step_113 rfl ?_
              refine xv_icmp_gt (q := 118) (t := 125) rfl rfl dX1_step_115 (fun h115 => ?_) (fun h115 => ?_)
              · have h115 := nIlt h115 (by omega) (by omega)
                have hdg : ¬ dgt tp p = true := fun z => by have := (dgt_of z).2; omega
                refine xv_aload_n (q := 126) rfl dX1_step_125 rfl rfl ?_
                refine xv_dup (q := 127) rfl dX1_step_126 rfl ?_
                refine xv_geti (q := 130) rfl dX1_step_127 f_X1_21 (hg.1 _ _ rfl) ?_
                rw [xi_ne _ _ _ _ (by omega), j3]
                refine xv_iconst (v := nI 1) (q := 131) rfl dX1_step_130 rfl ?_
                refine xv_iadd (q := 132) rfl dX1_step_131 ?_
                refine xv_as (w := nI (p + 1)) (nI_add _ _) ?_
                refine xv_puti (q := 135) rfl dX1_step_132 f_X1_21 (fun h => by cases h) (hg.1 _ _ rfl) ?_
                refine xv_aload_n (q := 136) rfl dX1_step_135 rfl rfl ?_
                refine xv_iload_n (q := 137) rfl dX1_step_136 rfl rfl ?_
                refine xv_cS1 (z := mX1_isSign) (q := 140) rfl dX1_step_137 l_X1_84 gX1_isSign rfl (c_isSign (d := d) hb) (by omega) ?_
                refine xv_if_eq (q := 143) (t := 147) rfl rfl dX1_step_140 (fun h140 => ?_) (fun h140 => ?_)
                · have h140 := bIz h140
                  refine xv_iconst (v := nI 1) (q := 148) rfl dX1_step_147 rfl ?_
                  refine xv_puti (q := 151) rfl dX1_step_148 f_X1_39 (fun h => by cases h) (hg.1 _ _ rfl) ?_
                  refine xv_vret dX1_step_151 rfl ?_
                  have e1 : tok tp n p0 = 1 := by unfold tok; rw [ep, if_neg (by omega), if_neg hl, if_neg hdg]; exact if_neg (by rw [h140]; decide)
                  have e2 : nxt tp n p0 = p + 1 := by unfold nxt; rw [ep, if_neg (by omega), if_neg hl, if_neg hdg]
                  refine ⟨rfl, rfl, rfl, rfl, ((hF.trans (RdF.xi (by decide) (by decide))).trans (RdF.xi (by decide) (by decide))).trans (RdF.xi (by decide) (by decide)), ?_, ?_, ?_, fun q => ?_⟩
                  · rw [ep, xi_ne _ _ _ _ (by omega), xi_ne _ _ _ _ (by omega), xi_eq]
                  · rw [e2, xi_ne _ _ _ _ (by omega), xi_eq]
                  · rw [e1, xi_eq]
                  · rw [e1] at q
                    exact absurd q (by omega)
                · have h140 := bIn h140
                  refine xv_iload_n (q := 144) rfl dX1_step_143 rfl rfl ?_
                  refine xv_goto (t := 148) rfl dX1_step_144 ?_
                  refine xv_puti (q := 151) rfl dX1_step_148 f_X1_39 (fun h => by cases h) (hg.1 _ _ rfl) ?_
                  refine xv_vret dX1_step_151 rfl ?_
                  have e1 : tok tp n p0 = tp p := by unfold tok; rw [ep, if_neg (by omega), if_neg hl, if_neg hdg]; exact if_pos h140
                  have e2 : nxt tp n p0 = p + 1 := by unfold nxt; rw [ep, if_neg (by omega), if_neg hl, if_neg hdg]
                  refine ⟨rfl, rfl, rfl, rfl, ((hF.trans (RdF.xi (by decide) (by decide))).trans (RdF.xi (by decide) (by decide))).trans (RdF.xi (by decide) (by decide)), ?_, ?_, ?_, fun q => ?_⟩
                  · rw [ep, xi_ne _ _ _ _ (by omega), xi_ne _ _ _ _ (by omega), xi_eq]
                  · rw [e2, xi_ne _ _ _ _ (by omega), xi_eq]
                  · rw [e1, xi_eq]
                  · rw [e1] at q
                    exact absurd q (fun q => by unfold sgn at h140; simp at h140; omega)
              · have h115 := nInlt h115 (by omega) (by omega)
                have hdg : dgt tp p = true := dgt_t h109 h115
                refine xv_aload_n (q := 119) rfl dX1_step_118 rfl rfl ?_
                refine xv_rV0 (z := mX1_stepOverDigits) (q := 122) rfl dX1_step_119 l_X1_81 gX1_stepOverDigits (hg.1 _ _ rfl) rfl rfl rfl (c_digits (d := d) hg (hT.mv (hF.trans (RdF.xi (by decide) (by decide)))) (Nat.le_of_lt hlt) (xi_eq _ _ _ _) (by rw [xi_ne _ _ _ _ (by omega)]; exact j3)) (by omega) ?_
                rintro _ _ K _ _ ⟨rfl, rfl, rfl, rfl, q1, q2, q3, q4, q5⟩
                refine xv_goto (t := 151) rfl dX1_step_122 ?_
                refine xv_vret dX1_step_151 rfl ?_
                have e1 : tok tp n p0 = if 4 < den tp n p - p then 1 else 2 := by unfold tok; rw [ep, if_neg (by omega), if_neg hl, if_pos hdg]
                have e2 : nxt tp n p0 = den tp n p := by unfold nxt; rw [ep, if_neg (by omega), if_neg hl, if_pos hdg]
                have e3 : vlu tp n p0 = dgv tp p (den tp n p - p) := by unfold vlu; rw [ep, if_neg hl]
                exact ⟨rfl, rfl, rfl, rfl, (hF.trans (RdF.xi (by decide) (by decide))).trans q1, by rw [ep]; exact q2, by rw [e2]; exact q3, by rw [e1]; exact q4, fun _ => by rw [e3]; exact q5⟩
          · have h96 := nInlt h96 (by omega) (by omega)
            have hl : ltr tp p = true := ltr_t h90 h96
            refine xv_aload_n (q := 100) rfl dX1_step_99 rfl rfl ?_
            refine xv_rV0 (z := mX1_stepOverWord) (q := 103) rfl dX1_step_100 l_X1_78 gX1_stepOverWord (hg.1 _ _ rfl) rfl rfl rfl (c_word (d := d) hg (hT.mv (hF.trans (RdF.xi (by decide) (by decide)))) (Nat.le_of_lt hlt) (xi_eq _ _ _ _) (by rw [xi_ne _ _ _ _ (by omega)]; exact j3)) (by omega) ?_
            rintro _ _ K _ _ ⟨rfl, rfl, rfl, rfl, q1, q2, q3, q4, q5⟩
            refine xv_goto (t := 151) rfl dX1_step_103 ?_
            refine xv_vret dX1_step_151 rfl ?_
            have e1 : tok tp n p0 = wtk (kno tp p (wen tp n p) 12) := by unfold tok; rw [ep, if_neg (by omega), if_pos hl]
            have e2 : nxt tp n p0 = wen tp n p := by unfold nxt; rw [ep, if_neg (by omega), if_pos hl]
            have e3 : vlu tp n p0 = kno tp p (wen tp n p) 12 := by unfold vlu; rw [ep, if_pos hl]
            exact ⟨rfl, rfl, rfl, rfl, (hF.trans (RdF.xi (by decide) (by decide))).trans q1, by rw [ep]; exact q2, by rw [e2]; exact q3, by rw [e1]; exact q4, fun q => by rw [e3]; exact q5 (wtk_n (by rw [e1] at q; exact q))⟩
      · have hge := nInlt h68 (by omega) (by omega)
        refine xv_aload_n (q := 72) rfl dX1_step_71 rfl rfl ?_
        refine xv_iconst (v := nI 0) (q := 73) rfl dX1_step_72 rfl ?_
        refine xv_puti (q := 76) rfl dX1_step_73 f_X1_39 (fun h => by cases h) (hg.1 _ _ rfl) ?_
        refine xv_vret dX1_step_76 rfl ?_
        have e1 : tok tp n p0 = 0 := if_pos (by omega)
        have e2 : nxt tp n p0 = p := by unfold nxt; rw [ep, if_pos hge]
        refine ⟨rfl, rfl, rfl, rfl, (hF.trans (RdF.xi (by decide) (by decide))).trans (RdF.xi (by decide) (by decide)), ?_, ?_, ?_, fun q => ?_⟩
        · rw [ep, xi_ne _ _ _ _ (by omega), xi_eq]
        · rw [e2, xi_ne _ _ _ _ (by omega), xi_ne _ _ _ _ (by omega)]; exact j3
        · rw [e1, xi_eq]
        · rw [e1] at q
          exact absurd q (by omega)
    refine xv_aload_n (q := 1) rfl dX1_step_0 rfl rfl ?_
    refine xv_geti (q := 4) rfl dX1_step_1 f_X1_21 (hg.1 _ _ rfl) ?_
    rw [j3]
    refine xv_aload_n (q := 5) rfl dX1_step_4 rfl rfl ?_
    refine xv_geti (q := 8) rfl dX1_step_5 f_X1_72 (hg.1 _ _ rfl) ?_
    rw [r1]
    refine xv_icmp_ge (q := 11) (t := 52) rfl rfl dX1_step_8 (fun h8 => ?_) (fun h8 => ?_)
    · exact hend (fun z => by have := nIle h8 (by omega) (by omega); omega)
    · have hlt := nInle h8 (by omega) (by omega)
      have hb := (r3 p hlt).2
      refine xv_aload_n (q := 12) rfl dX1_step_11 rfl rfl ?_
      refine xv_geta (q := 15) rfl dX1_step_12 f_X1_9 (hg.1 _ _ rfl) (hg.2 _ _ _ rfl) ?_
      refine xv_aload_n (q := 16) rfl dX1_step_15 rfl rfl ?_
      refine xv_geti (q := 19) rfl dX1_step_16 f_X1_21 (hg.1 _ _ rfl) ?_
      rw [j3]
      refine xv_iald (q := 20) rfl dX1_step_19 (hg.1 _ _ rfl) rfl (by omega) (by decide) ?_
      rw [(r3 p hlt).1]
      refine xv_bipush (v := nI 32) (q := 22) rfl dX1_step_20 rfl ?_
      refine xv_icmp_eq (q := 25) (t := 39) rfl rfl dX1_step_22 (fun h22 => ?_) (fun h22 => ?_)
      · have h22 := nIe h22 (by omega) (by omega)
        refine xv_aload_n (q := 40) rfl dX1_step_39 rfl rfl ?_
        refine xv_dup (q := 41) rfl dX1_step_40 rfl ?_
        refine xv_geti (q := 44) rfl dX1_step_41 f_X1_21 (hg.1 _ _ rfl) ?_
        rw [j3]
        refine xv_iconst (v := nI 1) (q := 45) rfl dX1_step_44 rfl ?_
        refine xv_iadd (q := 46) rfl dX1_step_45 ?_
        refine xv_as (w := nI (p + 1)) (nI_add _ _) ?_
        refine xv_puti (q := 49) rfl dX1_step_46 f_X1_21 (fun h => by cases h) (hg.1 _ _ rfl) ?_
        refine xv_goto (t := 0) rfl dX1_step_49 ?_
        refine ih (p + 1) _ (by omega) (by omega) (hF.trans (RdF.xi (by decide) (by decide))) (xi_eq _ _ _ _) ?_
        rw [← hsc]
        exact ((scn_go ⟨hlt, by unfold blk; rw [decide_eq_true h22, Bool.true_or]⟩ (by omega)).trans (scn_eq (by omega) (by omega))).symm
      · have h22 : ¬ tp p = 32 := fun q => h22 (by rw [q])
        refine xv_aload_n (q := 26) rfl dX1_step_25 rfl rfl ?_
        refine xv_geta (q := 29) rfl dX1_step_26 f_X1_9 (hg.1 _ _ rfl) (hg.2 _ _ _ rfl) ?_
        refine xv_aload_n (q := 30) rfl dX1_step_29 rfl rfl ?_
        refine xv_geti (q := 33) rfl dX1_step_30 f_X1_21 (hg.1 _ _ rfl) ?_
        rw [j3]
        refine xv_iald (q := 34) rfl dX1_step_33 (hg.1 _ _ rfl) rfl (by omega) (by decide) ?_
        rw [(r3 p hlt).1]
        refine xv_bipush (v := nI 10) (q := 36) rfl dX1_step_34 rfl ?_
        refine xv_icmp_ne (q := 39) (t := 52) rfl rfl dX1_step_36 (fun h36 => ?_) (fun h36 => ?_)
        · have h36 : ¬ tp p = 10 := fun q => h36 (by rw [q])
          exact hend (fun z => by have := z.2; unfold blk at this; rw [decide_eq_false h22, decide_eq_false h36] at this; cases this)
        · have h36 := nIe h36 (by omega) (by omega)
          refine xv_aload_n (q := 40) rfl dX1_step_39 rfl rfl ?_
          refine xv_dup (q := 41) rfl dX1_step_40 rfl ?_
          refine xv_geti (q := 44) rfl dX1_step_41 f_X1_21 (hg.1 _ _ rfl) ?_
          rw [j3]
          refine xv_iconst (v := nI 1) (q := 45) rfl dX1_step_44 rfl ?_
          refine xv_iadd (q := 46) rfl dX1_step_45 ?_
          refine xv_as (w := nI (p + 1)) (nI_add _ _) ?_
          refine xv_puti (q := 49) rfl dX1_step_46 f_X1_21 (fun h => by cases h) (hg.1 _ _ rfl) ?_
          refine xv_goto (t := 0) rfl dX1_step_49 ?_
          refine ih (p + 1) _ (by omega) (by omega) (hF.trans (RdF.xi (by decide) (by decide))) (xi_eq _ _ _ _) ?_
          rw [← hsc]
          exact ((scn_go ⟨hlt, by unfold blk; rw [decide_eq_true h36, Bool.or_true]⟩ (by omega)).trans (scn_eq (by omega) (by omega))).symm
theorem c_step (hg : XG sh R) (hT : RdT I tp n) {p : Nat} (hp : p ≤ n) (h3 : I 17 3 = nI p) : XC E mX1_step (d + 6) 0 0 [.ref 17] sh I R L (QSt tp n p sh I R L) := by
  refine XC.of (by decide) rfl rfl ?_
  exact c_step_skip hg hT (n + 1) p I hp (by omega) RdF.rf h3 rfl
end LEX2

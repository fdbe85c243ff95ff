/-! the model: feed, image, back -/
def KMp (I : XI) (tl : Nat) (tp : Nat → Nat) : Prop := I 61 6 = nI tl ∧ tl ≤ 160 ∧ ∀ i, i < tl → I 64 i = nI (tp i) ∧ tp i < 256
/-- an image is one of riders that came before -/
def IMk (im : Option CG) (n : Nat) (c : CR) : Prop := ∀ q, im = some q → q.1 ≤ n ∧ ∀ r, r < q.1 → c 0 r = q.2.1 0 r ∧ c 3 r = q.2.1 3 r
def KMi (I : XI) : Option CG → Prop
  | none => I 61 42 = -1
  | some q => I 61 42 = nI q.1 ∧ q.1 ≤ 5 ∧ I 61 43 = nI q.2.2.1 ∧ (q.2.2.1 = 1 ∨ q.2.2.1 = 2) ∧ I 61 44 = nI q.2.2.2 ∧ wfc q.2.1 q.1 ∧ ∀ r, r < q.1 → I 77 r = nI (q.2.1 1 r) ∧ I 77 (5 + r) = nI (q.2.1 2 r) ∧ I 77 (10 + r) = nI (q.2.1 4 r) ∧ I 77 (15 + r) = nI (q.2.1 5 r) ∧ I 77 (20 + r) = nI (q.2.1 6 r)
section MIMAGE
variable {E : XE} {d : Nat} {sh : XSh} {I : XI} {R : XRf} {L : XL} {n dd u : Nat} {c : CR}
def QMp (q : Int32 × Nat × (Nat → Nat)) (sh : XSh) (I : XI) (R : XRf) (L : XL) : XQ := fun v sh' J R' L' => v = some (.int q.1) ∧ sh' = sh ∧ R' = R ∧ L' = L ∧ KMp J q.2.1 q.2.2 ∧ (∀ k, k ≠ 61 → k ≠ 64 → J k = I k) ∧ ∀ j, j ≠ 6 → J 61 j = I 61 j
theorem y_feed (hg : XG sh R) {tl : Nat} {tp : Nat → Nat} (hK : KMp I tl tp) (x : Int32) : XC E mX7_feed (d + 1) 0 0 [.ref 61, .int x] sh I R L (QMp (sp_feed tl tp x) sh I R L) := by
  have htl := hK.2.1
  refine XC.of (by decide) rfl rfl ?_
  refine xv_iload_n (q := 1) rfl dX7_feed_0 rfl rfl ?_
  refine xv_i2l (q := 2) rfl dX7_feed_1 ?_
  refine xv_lconst (v := lN 0) (q := 3) rfl dX7_feed_2 rfl ?_
  refine xv_ldc2 (q := 6) rfl dX7_feed_3 k_X7_128 ?_
  refine xv_cS3 (z := mX7_in) (q := 9) rfl dX7_feed_6 l_X7_91 gX7_in rfl (m_in (d := d) _ _ _) (by omega) ?_
  rw [lin_0 (b := 255) rfl (by decide)]
  refine xv_if_ne (q := 12) (t := 15) rfl rfl dX7_feed_9 (fun zh9 => ?_) (fun zh9 => ?_)
  · have zh9 := bIn zh9
    obtain ⟨x, zhx, rfl⟩ := isR_nI (by decide) zh9
    have hq0 : ¬ (nI x < 0 ∨ ¬ nI x ≤ nI 255) := fun q => q.elim (nI_pos (by omega)) (fun q => q (nI_le (by omega) (by decide)))
    refine xv_aload_n (q := 16) rfl dX7_feed_15 rfl rfl ?_
    refine xv_geti (q := 19) rfl dX7_feed_16 f_X7_130 (hg.1 _ _ rfl) ?_
    rw [hK.1]
    refine xv_sipush (v := nI 160) (q := 22) rfl dX7_feed_19 rfl ?_
    refine xv_icmp_ne (q := 25) (t := 28) rfl rfl dX7_feed_22 (fun h22 => ?_) (fun h22 => ?_)
    · have h22 : tl < 160 := by
        have : ¬ tl = 160 := fun q => h22 (by rw [q])
        omega
      refine xv_aload_n (q := 29) rfl dX7_feed_28 rfl rfl ?_
      refine xv_geta (q := 32) rfl dX7_feed_29 f_X7_20 (hg.1 _ _ rfl) (hg.2 _ _ _ rfl) ?_
      refine xv_aload_n (q := 33) rfl dX7_feed_32 rfl rfl ?_
      refine xv_geti (q := 36) rfl dX7_feed_33 f_X7_130 (hg.1 _ _ rfl) ?_
      rw [hK.1]
      refine xv_iload_n (q := 37) rfl dX7_feed_36 rfl rfl ?_
      refine xv_iast (q := 38) rfl dX7_feed_37 (hg.1 _ _ rfl) rfl (by omega) (by decide) ?_
      refine xv_aload_n (q := 39) rfl dX7_feed_38 rfl rfl ?_
      refine xv_dup (q := 40) rfl dX7_feed_39 rfl ?_
      refine xv_geti (q := 43) rfl dX7_feed_40 f_X7_130 (hg.1 _ _ rfl) ?_
      rw [show xi I 64 tl (nI x) 61 6 = nI tl from (congrFun (xi_off _ _ _ _ (by decide)) 6).trans hK.1]
      refine xv_iconst (v := nI 1) (q := 44) rfl dX7_feed_43 rfl ?_
      refine xv_iadd (q := 45) rfl dX7_feed_44 ?_
      refine xv_as (w := nI (tl + 1)) (nI_add _ _) ?_
      refine xv_puti (q := 48) rfl dX7_feed_45 f_X7_130 (fun h => by cases h) (hg.1 _ _ rfl) ?_
      refine xv_aload_n (q := 49) rfl dX7_feed_48 rfl rfl ?_
      refine xv_geti (q := 52) rfl dX7_feed_49 f_X7_130 (hg.1 _ _ rfl) ?_
      rw [xi_eq]
      refine xv_iret dX7_feed_52 rfl ?_
      rw [show sp_feed tl tp (nI x) = (nI (tl + 1), tl + 1, va_up tp tl x) from (if_neg hq0).trans ((if_neg (by omega)).trans (by rw [nI_clamp (n := x) (by omega)]))]
      refine ⟨rfl, rfl, rfl, rfl, ⟨xi_eq _ _ _ _, by show tl + 1 ≤ 160; omega, fun i hi => ?_⟩, fun k hk hk2 => (xi_off _ _ _ _ hk).trans (xi_off _ _ _ _ hk2), fun j zhj => by rw [xi_ne _ _ _ _ (by omega), xi_off _ _ _ _ (by decide)]⟩
      have hi : i < tl + 1 := hi
      rw [xi_off _ _ _ _ (by decide)]
      show _ = nI (va_up tp tl x i) ∧ va_up tp tl x i < 256
      by_cases e : i = tl
      · subst e
        rw [xi_eq]
        unfold va_up
        rw [if_pos rfl]
        exact ⟨rfl, zhx⟩
      · rw [xi_ne _ _ _ _ (by omega)]
        unfold va_up
        rw [if_neg e]
        exact hK.2.2 i (by omega)
    · have h22 : tl = 160 := nIe h22 (by omega) (by decide)
      refine xv_bipush (v := (-4)) (q := 27) rfl dX7_feed_25 rfl ?_
      refine xv_iret dX7_feed_27 rfl ?_
      rw [show sp_feed tl tp (nI x) = (-4, tl, tp) from (if_neg hq0).trans (if_pos (by omega))]
      exact ⟨rfl, rfl, rfl, rfl, hK, fun _ _ _ => rfl, fun _ _ => rfl⟩
  · have zh9 := bIz zh9
    refine xv_bipush (v := (-2)) (q := 14) rfl dX7_feed_12 rfl ?_
    refine xv_iret dX7_feed_14 rfl ?_
    rw [show sp_feed tl tp x = (-2, tl, tp) from if_pos (by
      by_cases zh1 : x < 0
      · exact Or.inl zh1
      · exact Or.inr (fun zh2 => isR_f zh9 ⟨zh1, fun zh3 => absurd (Int32.le_trans zh3 zh2) (by decide)⟩))]
    exact ⟨rfl, rfl, rfl, rfl, hK, fun _ _ _ => rfl, fun _ _ => rfl⟩
/-- the first r of the image's five rows -/
def IMr (I J : XI) (r : Nat) : Prop := (∀ k, k ≠ 77 → J k = I k) ∧ ∀ a, a < r → J 77 a = I 66 a ∧ J 77 (5 + a) = I 67 a ∧ J 77 (10 + a) = I 69 a ∧ J 77 (15 + a) = I 70 a ∧ J 77 (20 + a) = I 71 a
theorem m_img_loop (hg : XG sh R) {Q : XQ} (KK : ∀ J, IMr I J 5 → XV E mX7_image d 0 0 Q 0 0 84 [some (.ref 61), some (.int (nI 5))] [] sh J R L) : ∀ (k r : Nat) (J : XI), r ≤ 5 → 5 < r + k → IMr I J r → XV E mX7_image d 0 0 Q 0 0 2 [some (.ref 61), some (.int (nI r))] [] sh J R L := by
  intro k
  induction k with
  | zero => intro r J zh1 zh2; exact absurd zh2 (by omega)
  | succ k ih =>
    intro r J zh1 zh2 hJ
    refine xv_iload_n (q := 3) rfl dX7_image_2 rfl rfl ?_
    refine xv_iconst (v := nI 5) (q := 4) rfl dX7_image_3 rfl ?_
    refine xv_icmp_ge (q := 7) (t := 84) rfl rfl dX7_image_4 (fun zh4 => ?_) (fun zh4 => ?_)
    · have hr : r = 5 := by have := nIle zh4 (by omega) (by omega); omega
      subst hr
      exact KK J hJ
    · have hr : r < 5 := nInle zh4 (by omega) (by omega)
      refine xv_aload_n (q := 8) rfl dX7_image_7 rfl rfl ?_
      refine xv_geta (q := 11) rfl dX7_image_8 f_X7_62 (hg.1 _ _ rfl) (hg.2 _ _ _ rfl) ?_
      refine xv_iload_n (q := 12) rfl dX7_image_11 rfl rfl ?_
      refine xv_aload_n (q := 13) rfl dX7_image_12 rfl rfl ?_
      refine xv_geta (q := 16) rfl dX7_image_13 f_X7_29 (hg.1 _ _ rfl) (hg.2 _ _ _ rfl) ?_
      refine xv_iload_n (q := 17) rfl dX7_image_16 rfl rfl ?_
      refine xv_iald (q := 18) rfl dX7_image_17 (hg.1 _ _ rfl) rfl (by omega) (by decide) ?_
      refine xv_iast (q := 19) rfl dX7_image_18 (hg.1 _ _ rfl) rfl (by omega) (by decide) ?_
      refine xv_aload_n (q := 20) rfl dX7_image_19 rfl rfl ?_
      refine xv_geta (q := 23) rfl dX7_image_20 f_X7_62 (hg.1 _ _ rfl) (hg.2 _ _ _ rfl) ?_
      refine xv_iconst (v := nI 5) (q := 24) rfl dX7_image_23 rfl ?_
      refine xv_iload_n (q := 25) rfl dX7_image_24 rfl rfl ?_
      refine xv_iadd (q := 26) rfl dX7_image_25 ?_
      refine xv_as (w := nI (5 + r)) (nI_add _ _) ?_
      refine xv_aload_n (q := 27) rfl dX7_image_26 rfl rfl ?_
      refine xv_geta (q := 30) rfl dX7_image_27 f_X7_32 (hg.1 _ _ rfl) (hg.2 _ _ _ rfl) ?_
      refine xv_iload_n (q := 31) rfl dX7_image_30 rfl rfl ?_
      refine xv_iald (q := 32) rfl dX7_image_31 (hg.1 _ _ rfl) rfl (by omega) (by decide) ?_
      refine xv_iast (q := 33) rfl dX7_image_32 (hg.1 _ _ rfl) rfl (by omega) (by decide) ?_
      refine xv_aload_n (q := 34) rfl dX7_image_33 rfl rfl ?_
      refine xv_geta (q := 37) rfl dX7_image_34 f_X7_62 (hg.1 _ _ rfl) (hg.2 _ _ _ rfl) ?_
      refine xv_bipush (v := nI 10) (q := 39) rfl dX7_image_37 rfl ?_
      refine xv_iload_n (q := 40) rfl dX7_image_39 rfl rfl ?_
      refine xv_iadd (q := 41) rfl dX7_image_40 ?_
      refine xv_as (w := nI (10 + r)) (nI_add _ _) ?_
      refine xv_aload_n (q := 42) rfl dX7_image_41 rfl rfl ?_
      refine xv_geta (q := 45) rfl dX7_image_42 f_X7_38 (hg.1 _ _ rfl) (hg.2 _ _ _ rfl) ?_
      refine xv_iload_n (q := 46) rfl dX7_image_45 rfl rfl ?_
      refine xv_iald (q := 47) rfl dX7_image_46 (hg.1 _ _ rfl) rfl (by omega) (by decide) ?_
      refine xv_iast (q := 48) rfl dX7_image_47 (hg.1 _ _ rfl) rfl (by omega) (by decide) ?_
      refine xv_aload_n (q := 49) rfl dX7_image_48 rfl rfl ?_
      refine xv_geta (q := 52) rfl dX7_image_49 f_X7_62 (hg.1 _ _ rfl) (hg.2 _ _ _ rfl) ?_
      refine xv_bipush (v := nI 15) (q := 54) rfl dX7_image_52 rfl ?_
      refine xv_iload_n (q := 55) rfl dX7_image_54 rfl rfl ?_
      refine xv_iadd (q := 56) rfl dX7_image_55 ?_
      refine xv_as (w := nI (15 + r)) (nI_add _ _) ?_
      refine xv_aload_n (q := 57) rfl dX7_image_56 rfl rfl ?_
      refine xv_geta (q := 60) rfl dX7_image_57 f_X7_41 (hg.1 _ _ rfl) (hg.2 _ _ _ rfl) ?_
      refine xv_iload_n (q := 61) rfl dX7_image_60 rfl rfl ?_
      refine xv_iald (q := 62) rfl dX7_image_61 (hg.1 _ _ rfl) rfl (by omega) (by decide) ?_
      refine xv_iast (q := 63) rfl dX7_image_62 (hg.1 _ _ rfl) rfl (by omega) (by decide) ?_
      refine xv_aload_n (q := 64) rfl dX7_image_63 rfl rfl ?_
      refine xv_geta (q := 67) rfl dX7_image_64 f_X7_62 (hg.1 _ _ rfl) (hg.2 _ _ _ rfl) ?_
      refine xv_bipush (v := nI 20) (q := 69) rfl dX7_image_67 rfl ?_
      refine xv_iload_n (q := 70) rfl dX7_image_69 rfl rfl ?_
      refine xv_iadd (q := 71) rfl dX7_image_70 ?_
      refine xv_as (w := nI (20 + r)) (nI_add _ _) ?_
      refine xv_aload_n (q := 72) rfl dX7_image_71 rfl rfl ?_
      refine xv_geta (q := 75) rfl dX7_image_72 f_X7_44 (hg.1 _ _ rfl) (hg.2 _ _ _ rfl) ?_
      refine xv_iload_n (q := 76) rfl dX7_image_75 rfl rfl ?_
      refine xv_iald (q := 77) rfl dX7_image_76 (hg.1 _ _ rfl) rfl (by omega) (by decide) ?_
      refine xv_iast (q := 78) rfl dX7_image_77 (hg.1 _ _ rfl) rfl (by omega) (by decide) ?_
      refine xv_iinc (q := 81) (v := nI 1) rfl dX7_image_78 rfl rfl ?_
      refine xv_goto (t := 2) rfl dX7_image_81 ?_
      rw [nI_add]
      refine ih (r + 1) _ (by omega) (by omega) ⟨fun k hk => by simp only [xi_off _ _ _ _ hk]; exact hJ.1 k hk, fun a ha => ?_⟩
      have e58 : J 66 = I 66 := hJ.1 _ (by decide)
      have e59 : J 67 = I 67 := hJ.1 _ (by decide)
      have e61 : J 69 = I 69 := hJ.1 _ (by decide)
      have e62 : J 70 = I 70 := hJ.1 _ (by decide)
      have e63 : J 71 = I 71 := hJ.1 _ (by decide)
      by_cases e : a = r
      · subst e
        refine ⟨?_, ?_, ?_, ?_, ?_⟩
        · rw [xi_ne _ _ _ _ (by omega), xi_ne _ _ _ _ (by omega), xi_ne _ _ _ _ (by omega), xi_ne _ _ _ _ (by omega), xi_eq, e58]
        · rw [xi_ne _ _ _ _ (by omega), xi_ne _ _ _ _ (by omega), xi_ne _ _ _ _ (by omega), xi_eq, xi_off _ _ _ _ (by decide), e59]
        · rw [xi_ne _ _ _ _ (by omega), xi_ne _ _ _ _ (by omega), xi_eq, xi_off _ _ _ _ (by decide), xi_off _ _ _ _ (by decide), e61]
        · rw [xi_ne _ _ _ _ (by omega), xi_eq, xi_off _ _ _ _ (by decide), xi_off _ _ _ _ (by decide), xi_off _ _ _ _ (by decide), e62]
        · rw [xi_eq, xi_off _ _ _ _ (by decide), xi_off _ _ _ _ (by decide), xi_off _ _ _ _ (by decide), xi_off _ _ _ _ (by decide), e63]
      · have q := hJ.2 a (by omega)
        rw [xi_ne _ _ _ _ (by omega), xi_ne _ _ _ _ (by omega), xi_ne _ _ _ _ (by omega), xi_ne _ _ _ _ (by omega), xi_ne _ _ _ _ (by omega), xi_ne _ _ _ _ (by omega), xi_ne _ _ _ _ (by omega), xi_ne _ _ _ _ (by omega), xi_ne _ _ _ _ (by omega), xi_ne _ _ _ _ (by omega), xi_ne _ _ _ _ (by omega), xi_ne _ _ _ _ (by omega), xi_ne _ _ _ _ (by omega), xi_ne _ _ _ _ (by omega), xi_ne _ _ _ _ (by omega), xi_ne _ _ _ _ (by omega), xi_ne _ _ _ _ (by omega), xi_ne _ _ _ _ (by omega), xi_ne _ _ _ _ (by omega), xi_ne _ _ _ _ (by omega), xi_ne _ _ _ _ (by omega), xi_ne _ _ _ _ (by omega), xi_ne _ _ _ _ (by omega), xi_ne _ _ _ _ (by omega), xi_ne _ _ _ _ (by omega)]
        exact q
theorem y_image (hg : XG sh R) (hK : MKc I n c dd u) : XC E mX7_image d 0 0 [.ref 61] sh I R L (fun v sh' J R' L' => v = some (.int (nI n)) ∧ sh' = sh ∧ R' = R ∧ L' = L ∧ KMi J (some (n, c, dd, u)) ∧ (∀ k, k ≠ 61 → k ≠ 77 → J k = I k) ∧ ∀ j, j ≠ 42 → j ≠ 43 → j ≠ 44 → J 61 j = I 61 j) := by
  obtain ⟨hm, hn, hn5, hdd, hd2, hu, hwf⟩ := id hK
  refine XC.of (by decide) rfl rfl ?_
  refine xv_iconst (v := nI 0) (q := 1) rfl dX7_image_0 rfl ?_
  refine xv_istore_n (q := 2) rfl dX7_image_1 rfl rfl ?_
  refine m_img_loop hg (fun J hJ => ?_) 6 0 I (by omega) (by omega) ⟨fun _ _ => rfl, fun a ha => absurd ha (Nat.not_lt_zero a)⟩
  have e53 : J 61 = I 61 := hJ.1 _ (by decide)
  refine xv_aload_n (q := 85) rfl dX7_image_84 rfl rfl ?_
  refine xv_aload_n (q := 86) rfl dX7_image_85 rfl rfl ?_
  refine xv_geti (q := 89) rfl dX7_image_86 f_X7_88 (hg.1 _ _ rfl) ?_
  rw [show J 61 15 = nI n by rw [e53]; exact hn]
  refine xv_puti (q := 92) rfl dX7_image_89 f_X7_65 (fun h => by cases h) (hg.1 _ _ rfl) ?_
  refine xv_aload_n (q := 93) rfl dX7_image_92 rfl rfl ?_
  refine xv_aload_n (q := 94) rfl dX7_image_93 rfl rfl ?_
  refine xv_geti (q := 97) rfl dX7_image_94 f_X7_23 (hg.1 _ _ rfl) ?_
  rw [xi_ne _ _ _ _ (by omega), show J 61 7 = nI dd by rw [e53]; exact hdd]
  refine xv_puti (q := 100) rfl dX7_image_97 f_X7_350 (fun h => by cases h) (hg.1 _ _ rfl) ?_
  refine xv_aload_n (q := 101) rfl dX7_image_100 rfl rfl ?_
  refine xv_aload_n (q := 102) rfl dX7_image_101 rfl rfl ?_
  refine xv_geti (q := 105) rfl dX7_image_102 f_X7_247 (hg.1 _ _ rfl) ?_
  rw [xi_ne _ _ _ _ (by omega), xi_ne _ _ _ _ (by omega), show J 61 4 = nI u by rw [e53]; exact hu]
  refine xv_puti (q := 108) rfl dX7_image_105 f_X7_353 (fun h => by cases h) (hg.1 _ _ rfl) ?_
  refine xv_aload_n (q := 109) rfl dX7_image_108 rfl rfl ?_
  refine xv_geti (q := 112) rfl dX7_image_109 f_X7_88 (hg.1 _ _ rfl) ?_
  rw [xi_ne _ _ _ _ (by omega), xi_ne _ _ _ _ (by omega), xi_ne _ _ _ _ (by omega), show J 61 15 = nI n by rw [e53]; exact hn]
  refine xv_iret dX7_image_112 rfl ?_
  refine ⟨rfl, rfl, rfl, rfl, ⟨?_, hn5, ?_, hd2, xi_eq _ _ _ _, hwf, fun r hr => ?_⟩, fun k hk hk2 => ?_, fun j zh1 zh2 zh3 => ?_⟩
  · rw [xi_ne _ _ _ _ (by omega), xi_ne _ _ _ _ (by omega), xi_eq]
  · rw [xi_ne _ _ _ _ (by omega), xi_eq]
  · have hr : r < n := hr
    have q := hJ.2 r (by omega)
    rw [xi_off _ _ _ _ (by decide), xi_off _ _ _ _ (by decide), xi_off _ _ _ _ (by decide)]
    exact ⟨q.1.trans (hm 1 r (by decide) hr), q.2.1.trans (hm 2 r (by decide) hr), q.2.2.1.trans (hm 4 r (by decide) hr), q.2.2.2.1.trans (hm 5 r (by decide) hr), q.2.2.2.2.trans (hm 6 r (by decide) hr)⟩
  · rw [xi_off _ _ _ _ hk, xi_off _ _ _ _ hk, xi_off _ _ _ _ hk]; exact hJ.1 k hk2
  · rw [xi_ne _ _ _ _ (by omega), xi_ne _ _ _ _ (by omega), xi_ne _ _ _ _ (by omega), e53]
/-- the first r of the rows are as kept -/
def BKr (I J : XI) (r : Nat) : Prop := (∀ k, (k < 66 ∨ 72 ≤ k ∨ k = 68) → J k = I k) ∧ ∀ a, a < r → J 66 a = I 77 a ∧ J 67 a = I 77 (5 + a) ∧ J 69 a = I 77 (10 + a) ∧ J 70 a = I 77 (15 + a) ∧ J 71 a = I 77 (20 + a)
theorem m_bck_loop (hg : XG sh R) {Q : XQ} (KK : ∀ J, BKr I J 5 → XV E mX7_back d 0 0 Q 0 0 95 [some (.ref 61), some (.int (nI 5))] [] sh J R L) : ∀ (k r : Nat) (J : XI), r ≤ 5 → 5 < r + k → BKr I J r → XV E mX7_back d 0 0 Q 0 0 13 [some (.ref 61), some (.int (nI r))] [] sh J R L := by
  intro k
  induction k with
  | zero => intro r J zh1 zh2; exact absurd zh2 (by omega)
  | succ k ih =>
    intro r J zh1 zh2 hJ
    have e69 : J 77 = I 77 := hJ.1 _ (by decide)
    refine xv_iload_n (q := 14) rfl dX7_back_13 rfl rfl ?_
    refine xv_iconst (v := nI 5) (q := 15) rfl dX7_back_14 rfl ?_
    refine xv_icmp_ge (q := 18) (t := 95) rfl rfl dX7_back_15 (fun h15 => ?_) (fun h15 => ?_)
    · have hr : r = 5 := by have := nIle h15 (by omega) (by omega); omega
      subst hr
      exact KK J hJ
    · have hr : r < 5 := nInle h15 (by omega) (by omega)
      refine xv_aload_n (q := 19) rfl dX7_back_18 rfl rfl ?_
      refine xv_geta (q := 22) rfl dX7_back_19 f_X7_29 (hg.1 _ _ rfl) (hg.2 _ _ _ rfl) ?_
      refine xv_iload_n (q := 23) rfl dX7_back_22 rfl rfl ?_
      refine xv_aload_n (q := 24) rfl dX7_back_23 rfl rfl ?_
      refine xv_geta (q := 27) rfl dX7_back_24 f_X7_62 (hg.1 _ _ rfl) (hg.2 _ _ _ rfl) ?_
      refine xv_iload_n (q := 28) rfl dX7_back_27 rfl rfl ?_
      refine xv_iald (q := 29) rfl dX7_back_28 (hg.1 _ _ rfl) rfl (by omega) (by decide) ?_
      refine xv_iast (q := 30) rfl dX7_back_29 (hg.1 _ _ rfl) rfl (by omega) (by decide) ?_
      refine xv_aload_n (q := 31) rfl dX7_back_30 rfl rfl ?_
      refine xv_geta (q := 34) rfl dX7_back_31 f_X7_32 (hg.1 _ _ rfl) (hg.2 _ _ _ rfl) ?_
      refine xv_iload_n (q := 35) rfl dX7_back_34 rfl rfl ?_
      refine xv_aload_n (q := 36) rfl dX7_back_35 rfl rfl ?_
      refine xv_geta (q := 39) rfl dX7_back_36 f_X7_62 (hg.1 _ _ rfl) (hg.2 _ _ _ rfl) ?_
      refine xv_iconst (v := nI 5) (q := 40) rfl dX7_back_39 rfl ?_
      refine xv_iload_n (q := 41) rfl dX7_back_40 rfl rfl ?_
      refine xv_iadd (q := 42) rfl dX7_back_41 ?_
      refine xv_as (w := nI (5 + r)) (nI_add _ _) ?_
      refine xv_iald (q := 43) rfl dX7_back_42 (hg.1 _ _ rfl) rfl (by omega) (by decide) ?_
      refine xv_iast (q := 44) rfl dX7_back_43 (hg.1 _ _ rfl) rfl (by omega) (by decide) ?_
      refine xv_aload_n (q := 45) rfl dX7_back_44 rfl rfl ?_
      refine xv_geta (q := 48) rfl dX7_back_45 f_X7_38 (hg.1 _ _ rfl) (hg.2 _ _ _ rfl) ?_
      refine xv_iload_n (q := 49) rfl dX7_back_48 rfl rfl ?_
      refine xv_aload_n (q := 50) rfl dX7_back_49 rfl rfl ?_
      refine xv_geta (q := 53) rfl dX7_back_50 f_X7_62 (hg.1 _ _ rfl) (hg.2 _ _ _ rfl) ?_
      refine xv_bipush (v := nI 10) (q := 55) rfl dX7_back_53 rfl ?_
      refine xv_iload_n (q := 56) rfl dX7_back_55 rfl rfl ?_
      refine xv_iadd (q := 57) rfl dX7_back_56 ?_
      refine xv_as (w := nI (10 + r)) (nI_add _ _) ?_
      refine xv_iald (q := 58) rfl dX7_back_57 (hg.1 _ _ rfl) rfl (by omega) (by decide) ?_
      refine xv_iast (q := 59) rfl dX7_back_58 (hg.1 _ _ rfl) rfl (by omega) (by decide) ?_
      refine xv_aload_n (q := 60) rfl dX7_back_59 rfl rfl ?_
      refine xv_geta (q := 63) rfl dX7_back_60 f_X7_41 (hg.1 _ _ rfl) (hg.2 _ _ _ rfl) ?_
      refine xv_iload_n (q := 64) rfl dX7_back_63 rfl rfl ?_
      refine xv_aload_n (q := 65) rfl dX7_back_64 rfl rfl ?_
      refine xv_geta (q := 68) rfl dX7_back_65 f_X7_62 (hg.1 _ _ rfl) (hg.2 _ _ _ rfl) ?_
      refine xv_bipush (v := nI 15) (q := 70) rfl dX7_back_68 rfl ?_
      refine xv_iload_n (q := 71) rfl dX7_back_70 rfl rfl ?_
      refine xv_iadd (q := 72) rfl dX7_back_71 ?_
      refine xv_as (w := nI (15 + r)) (nI_add _ _) ?_
      refine xv_iald (q := 73) rfl dX7_back_72 (hg.1 _ _ rfl) rfl (by omega) (by decide) ?_
      refine xv_iast (q := 74) rfl dX7_back_73 (hg.1 _ _ rfl) rfl (by omega) (by decide) ?_
      refine xv_aload_n (q := 75) rfl dX7_back_74 rfl rfl ?_
      refine xv_geta (q := 78) rfl dX7_back_75 f_X7_44 (hg.1 _ _ rfl) (hg.2 _ _ _ rfl) ?_
      refine xv_iload_n (q := 79) rfl dX7_back_78 rfl rfl ?_
      refine xv_aload_n (q := 80) rfl dX7_back_79 rfl rfl ?_
      refine xv_geta (q := 83) rfl dX7_back_80 f_X7_62 (hg.1 _ _ rfl) (hg.2 _ _ _ rfl) ?_
      refine xv_bipush (v := nI 20) (q := 85) rfl dX7_back_83 rfl ?_
      refine xv_iload_n (q := 86) rfl dX7_back_85 rfl rfl ?_
      refine xv_iadd (q := 87) rfl dX7_back_86 ?_
      refine xv_as (w := nI (20 + r)) (nI_add _ _) ?_
      refine xv_iald (q := 88) rfl dX7_back_87 (hg.1 _ _ rfl) rfl (by omega) (by decide) ?_
      refine xv_iast (q := 89) rfl dX7_back_88 (hg.1 _ _ rfl) rfl (by omega) (by decide) ?_
      refine xv_iinc (q := 92) (v := nI 1) rfl dX7_back_89 rfl rfl ?_
      refine xv_goto (t := 13) rfl dX7_back_92 ?_
      rw [nI_add]
      refine ih (r + 1) _ (by omega) (by omega) ⟨fun k hk => ?_, fun a ha => ?_⟩
      · rw [xi_off _ _ _ _ (by omega), xi_off _ _ _ _ (by omega), xi_off _ _ _ _ (by omega), xi_off _ _ _ _ (by omega), xi_off _ _ _ _ (by omega)]; exact hJ.1 k hk
      by_cases e : a = r
      · subst e
        simp [xi, upd, e69]
      · have q := hJ.2 a (by omega)
        simp [xi, upd, e]
        exact q
/-- all as kept (KIND and FROM stay) -/
def QMb (q : Int32 × CG) (sh : XSh) (I : XI) (R : XRf) (L : XL) : XQ := fun v sh' J R' L' => v = some (.int q.1) ∧ sh' = sh ∧ R' = R ∧ L' = L ∧ MKc J q.2.1 q.2.2.1 q.2.2.2.1 q.2.2.2.2 ∧ (∀ k, k ≠ 61 → (k < 65 ∨ 72 ≤ k) → J k = I k) ∧ ∀ j, j ≠ 15 → j ≠ 7 → j ≠ 4 → J 61 j = I 61 j
theorem y_back (hg : XG sh R) (hK : MKc I n c dd u) (im : Option CG) (hI : KMi I im) (hM : IMk im n c) : XC E mX7_back d 0 0 [.ref 61] sh I R L (QMb (sp_back (n, c, dd, u) im) sh I R L) := by
  obtain ⟨hm, hn, hn5, hdd, hd2, hu, hwf⟩ := id hK
  cases im with
  | none =>
    have hI : I 61 42 = -1 := hI
    refine XC.of (by decide) rfl rfl ?_
    refine xv_aload_n (q := 1) rfl dX7_back_0 rfl rfl ?_
    refine xv_geti (q := 4) rfl dX7_back_1 f_X7_65 (hg.1 _ _ rfl) ?_
    rw [hI]
    refine xv_iconst (v := (-1)) (q := 5) rfl dX7_back_4 rfl ?_
    refine xv_icmp_ne (q := 8) (t := 11) rfl rfl dX7_back_5 (fun zh5 => ?_) (fun zh5 => ?_)
    · exact absurd rfl zh5
    · refine xv_bipush (v := (-3)) (q := 10) rfl dX7_back_8 rfl ?_
      refine xv_iret dX7_back_10 rfl ?_
      exact ⟨rfl, rfl, rfl, rfl, hK, fun _ _ _ => rfl, fun _ _ _ _ => rfl⟩
  | some q =>
    obtain ⟨i1, i2, i3, i4, i5, i6, i7⟩ := hI
    obtain ⟨hM1, hM2⟩ := hM q rfl
    refine XC.of (by decide) rfl rfl ?_
    refine xv_aload_n (q := 1) rfl dX7_back_0 rfl rfl ?_
    refine xv_geti (q := 4) rfl dX7_back_1 f_X7_65 (hg.1 _ _ rfl) ?_
    rw [i1]
    refine xv_iconst (v := (-1)) (q := 5) rfl dX7_back_4 rfl ?_
    refine xv_icmp_ne (q := 8) (t := 11) rfl rfl dX7_back_5 (fun zh5 => ?_) (fun zh5 => ?_)
    · refine xv_iconst (v := nI 0) (q := 12) rfl dX7_back_11 rfl ?_
      refine xv_istore_n (q := 13) rfl dX7_back_12 rfl rfl ?_
      refine m_bck_loop hg (fun J hJ => ?_) 6 0 I (by omega) (by omega) ⟨fun _ _ => rfl, fun a ha => absurd ha (Nat.not_lt_zero a)⟩
      have e53 : J 61 = I 61 := hJ.1 _ (by decide)
      refine xv_aload_n (q := 96) rfl dX7_back_95 rfl rfl ?_
      refine xv_aload_n (q := 97) rfl dX7_back_96 rfl rfl ?_
      refine xv_geti (q := 100) rfl dX7_back_97 f_X7_65 (hg.1 _ _ rfl) ?_
      rw [show J 61 42 = nI q.1 by rw [e53]; exact i1]
      refine xv_puti (q := 103) rfl dX7_back_100 f_X7_88 (fun h => by cases h) (hg.1 _ _ rfl) ?_
      refine xv_aload_n (q := 104) rfl dX7_back_103 rfl rfl ?_
      refine xv_aload_n (q := 105) rfl dX7_back_104 rfl rfl ?_
      refine xv_geti (q := 108) rfl dX7_back_105 f_X7_350 (hg.1 _ _ rfl) ?_
      rw [xi_ne _ _ _ _ (by omega), show J 61 43 = nI q.2.2.1 by rw [e53]; exact i3]
      refine xv_puti (q := 111) rfl dX7_back_108 f_X7_23 (fun h => by cases h) (hg.1 _ _ rfl) ?_
      refine xv_aload_n (q := 112) rfl dX7_back_111 rfl rfl ?_
      refine xv_aload_n (q := 113) rfl dX7_back_112 rfl rfl ?_
      refine xv_geti (q := 116) rfl dX7_back_113 f_X7_353 (hg.1 _ _ rfl) ?_
      rw [xi_ne _ _ _ _ (by omega), xi_ne _ _ _ _ (by omega), show J 61 44 = nI q.2.2.2 by rw [e53]; exact i5]
      refine xv_puti (q := 119) rfl dX7_back_116 f_X7_247 (fun h => by cases h) (hg.1 _ _ rfl) ?_
      refine xv_aload_n (q := 120) rfl dX7_back_119 rfl rfl ?_
      refine xv_geti (q := 123) rfl dX7_back_120 f_X7_88 (hg.1 _ _ rfl) ?_
      rw [xi_ne _ _ _ _ (by omega), xi_ne _ _ _ _ (by omega), xi_eq]
      refine xv_iret dX7_back_123 rfl ?_
      refine ⟨rfl, rfl, rfl, rfl, ⟨fun w r hw hr => ?_, ?_, i2, ?_, i4, xi_eq _ _ _ _, i6⟩, fun k hk hk2 => ?_, fun j zh1 zh2 zh3 => ?_⟩
      · have hr : r < q.1 := hr
        have g := hJ.2 r (by omega)
        have f := i7 r hr
        rw [xi_off _ _ _ _ (by omega), xi_off _ _ _ _ (by omega), xi_off _ _ _ _ (by omega)]
        rcases w7 hw with rfl | rfl | rfl | rfl | rfl | rfl | rfl
        · rw [hJ.1 65 (by decide)]; exact (hm 0 r (by decide) (by omega)).trans (congrArg nI (hM2 r hr).1)
        · exact g.1.trans f.1
        · exact g.2.1.trans f.2.1
        · rw [hJ.1 68 (by decide)]; exact (hm 3 r (by decide) (by omega)).trans (congrArg nI (hM2 r hr).2)
        · exact g.2.2.1.trans f.2.2.1
        · exact g.2.2.2.1.trans f.2.2.2.1
        · exact g.2.2.2.2.trans f.2.2.2.2
      · rw [xi_ne _ _ _ _ (by omega), xi_ne _ _ _ _ (by omega), xi_eq]; rfl
      · rw [xi_ne _ _ _ _ (by omega), xi_eq]; rfl
      · rw [xi_off _ _ _ _ hk, xi_off _ _ _ _ hk, xi_off _ _ _ _ hk]; exact hJ.1 k (by omega)
      · rw [xi_ne _ _ _ _ (by omega), xi_ne _ _ _ _ (by omega), xi_ne _ _ _ _ (by omega), e53]
    · exact absurd zh5 (fun z => by have := nI_pos (n := q.1) (by omega); rw [z] at this; exact this (by decide))
end MIMAGE

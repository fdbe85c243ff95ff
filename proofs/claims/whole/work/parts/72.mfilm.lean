/-! the model: film -/
section MFILM
variable {E : XE} {d : Nat} {sh : XSh} {I : XI} {R : XRf} {L : XL} {n dd : Nat} {c : CR} {u : Nat} {sg : SG}
/-- a question that films -/
def FMm (I J : XI) : Prop := (∀ k, k ≠ 61 → (k < 78 ∨ 82 ≤ k) → J k = I k) ∧ ∀ j, j ≠ 34 → J 61 j = I 61 j
def QMm (q : Int32 × SG) (sh : XSh) (I : XI) (R : XRf) (L : XL) : XQ := fun v sh' J R' L' => v = some (.int q.1) ∧ sh' = sh ∧ R' = R ∧ L' = L ∧ KMs J q.2 ∧ FMm I J
theorem up_up {s : Nat} {a b : Option (Nat × Nat × (Nat → Int32))} : va_up (va_up sg s a) s b = va_up sg s b := by
  funext r
  unfold va_up
  split <;> rfl
theorem sht_film {s m : Nat} (zhs : s < 4) (hm : m ≤ 10) (h : isSh (nI s) = true) : ∃ it, (sp_sheet sg (nI s) (nI 0) (nI m)).2 = va_up sg s (some (0, m, it)) := by
  unfold sp_sheet
  rw [if_neg (fun z => z.elim (fun z => by rw [h] at z; cases z) (fun z => z.elim (fun z => absurd z (by decide)) (fun z => absurd z (by decide)))), if_neg (by decide), if_neg (fun z => z ((nI_leI (by omega) (by decide)).mpr (by omega))), if_neg (fun z => z ((nI_leI (a := 0) (by decide) (by omega)).mpr (Nat.zero_le _)))]
  rw [nI_clamp (n := s) (by omega), nI_clamp (n := m) (by omega)]
  exact ⟨_, rfl⟩
theorem m_film_loop (hg : XG sh R) {s m : Nat} (zhs : s < 4) (hm : m ≤ 10) (hC : MCw I n c dd) (hP : I 61 34 = nI (aln n)) {Q : XQ} (KK : ∀ J : XI, (∀ k, k ≠ 81 → J k = I k) → (∀ i, (i < 40 * s ∨ 40 * s + 40 ≤ i) → J 81 i = I 81 i) → (∀ f, f < m → J 81 (40 * s + f) = nI (wso c n dd (aln n) f)) → Q (some (.int (nI m))) sh J R L) : ∀ (k f : Nat) (J : XI), f ≤ m → m < f + k → (∀ k, k ≠ 81 → J k = I k) → (∀ i, (i < 40 * s ∨ 40 * s + 40 ≤ i) → J 81 i = I 81 i) → (∀ g, g < f → J 81 (40 * s + g) = nI (wso c n dd (aln n) g)) → XV E mX7_film (d + 4) 0 0 Q 0 0 40 [some (.ref 61), some (.int (nI s)), some (.int (nI m)), some (.int (nI f))] [] sh J R L := by
  intro k
  induction k with
  | zero => intro f J zh1 zh2; exact absurd zh2 (by omega)
  | succ k ih =>
    intro f J zh1 zh2 hF hO hJ
    have e53 : J 61 = I 61 := hF 61 (by decide)
    refine xv_iload_n (q := 41) rfl dX7_film_40 rfl rfl ?_
    refine xv_iload_n (q := 42) rfl dX7_film_41 rfl rfl ?_
    refine xv_icmp_ge (q := 45) (t := 67) rfl rfl dX7_film_42 (fun h42 => ?_) (fun h42 => ?_)
    · have h42 := nIle h42 (by omega) (by omega)
      obtain rfl : f = m := by omega
      refine xv_iload_n (q := 68) rfl dX7_film_67 rfl rfl ?_
      refine xv_iret dX7_film_68 rfl ?_
      exact KK J hF hO hJ
    · have h42 := nInle h42 (by omega) (by omega)
      refine xv_aload_n (q := 46) rfl dX7_film_45 rfl rfl ?_
      refine xv_geta (q := 49) rfl dX7_film_46 f_X7_78 (hg.1 _ _ rfl) (hg.2 _ _ _ rfl) ?_
      refine xv_bipush (v := nI 40) (q := 51) rfl dX7_film_49 rfl ?_
      refine xv_iload_n (q := 52) rfl dX7_film_51 rfl rfl ?_
      refine xv_imul (q := 53) rfl dX7_film_52 ?_
      refine xv_as (w := nI (40 * s)) (pk_mul _ _) ?_
      refine xv_iload_n (q := 54) rfl dX7_film_53 rfl rfl ?_
      refine xv_iadd (q := 55) rfl dX7_film_54 ?_
      refine xv_as (w := nI (40 * s + f)) (nI_add _ _) ?_
      refine xv_aload_n (q := 56) rfl dX7_film_55 rfl rfl ?_
      refine xv_iload_n (q := 57) rfl dX7_film_56 rfl rfl ?_
      refine xv_cV1 (z := mX7_stepsAt) (q := 60) rfl dX7_film_57 l_X7_285 gX7_stepsAt (hg.1 _ _ rfl) rfl rfl rfl (m_steps (d := d) hg (hC.mv (fun k zh1 zh2 => hF k (by omega)) (by rw [e53]) (by rw [e53])) (by rw [e53]; exact hP) (all_32 hC.2.2.1) (show f < 10 by omega)) (by omega) ?_
      refine xv_iast (q := 61) rfl dX7_film_60 (hg.1 _ _ rfl) rfl (by omega) (by decide) ?_
      refine xv_iinc (q := 64) (v := nI 1) rfl dX7_film_61 rfl rfl ?_
      refine xv_goto (t := 40) rfl dX7_film_64 ?_
      rw [nI_add]
      refine ih (f + 1) _ (by omega) (by omega) (fun k hk => (xi_off _ _ _ _ hk).trans (hF k hk)) (fun i hi => (xi_ne _ _ _ _ (by omega)).trans (hO i hi)) (fun g hg2 => ?_)
      by_cases e : g = f
      · rw [e, xi_eq]
      · rw [xi_ne _ _ _ _ (by omega)]; exact hJ g (by omega)
theorem m_film (hg : XG sh R) (hK : MKc I n c dd u) (hS : KMs I sg) (x m : Int32) : XC E mX7_film (d + 5) 0 0 [.ref 61, .int x, .int m] sh I R L (QMm (sp_film sg n c dd x m) sh I R L) := by
  refine XC.of (by decide) rfl rfl ?_
  refine xv_iload_n (q := 1) rfl dX7_film_0 rfl rfl ?_
  refine xv_cS1 (z := mX7_isSheet) (q := 4) rfl dX7_film_1 l_X7_329 gX7_isSheet rfl (m_isSh (d := d) x) (by omega) ?_
  refine xv_if_eq (q := 7) (t := 19) rfl rfl dX7_film_4 (fun zh4 => ?_) (fun zh4 => ?_)
  · have zh4 := bIz zh4
    refine xv_bipush (v := (-2)) (q := 21) rfl dX7_film_19 rfl ?_
    refine xv_iret dX7_film_21 rfl ?_
    rw [show sp_film sg n c dd x m = (-2, sg) from if_pos (Or.inl zh4)]
    exact ⟨rfl, rfl, rfl, rfl, hS, fun _ _ _ => rfl, fun _ _ => rfl⟩
  · have zh4 := bIn zh4
    refine xv_iload_n (q := 8) rfl dX7_film_7 rfl rfl ?_
    refine xv_i2l (q := 9) rfl dX7_film_8 ?_
    refine xv_lconst (v := lN 0) (q := 10) rfl dX7_film_9 rfl ?_
    refine xv_ldc2 (q := 13) rfl dX7_film_10 k_X7_164 ?_
    refine xv_cS3 (z := mX7_in) (q := 16) rfl dX7_film_13 l_X7_91 gX7_in rfl (m_in (d := d) _ _ _) (by omega) ?_
    rw [lin_0n (k := 10) (by decide) rfl]
    refine xv_if_ne (q := 19) (t := 22) rfl rfl dX7_film_16 (fun h16 => ?_) (fun h16 => ?_)
    · have h16 := of_decide_eq_false (Bool.not_eq_eq_eq_not.mp (bIn h16))
      obtain ⟨s, zhs, rfl⟩ := isSh_of zh4
      obtain ⟨m, hm, rfl⟩ : ∃ j, j < 11 ∧ m = nI j := by
        rcases pk_ix m (n := 11) (by decide) with z | z | z
        · exact absurd (Or.inl z) h16
        · exact absurd (Or.inr (fun q => absurd (Int32.le_trans z q) (by decide))) h16
        · exact z
      have hsp : sp_film sg n c dd (nI s) (nI m) = (nI m, va_up sg s (some (0, m, fun f => nI (wso c n dd (aln n) f)))) := by
        unfold sp_film
        rw [if_neg (fun z => z.elim (fun z => by rw [zh4] at z; cases z) h16), nI_clamp (n := s) (by omega), nI_clamp (n := m) (by omega)]
      rw [hsp]
      refine xv_aload_n (q := 23) rfl dX7_film_22 rfl rfl ?_
      refine xv_aload_n (q := 24) rfl dX7_film_23 rfl rfl ?_
      refine xv_cV0 (z := mX7_allRiders) (q := 27) rfl dX7_film_24 l_X7_291 gX7_allRiders (hg.1 _ _ rfl) rfl rfl rfl (m_all (d := d) hg hK.2.1 hK.2.2.1) (by omega) ?_
      refine xv_puti (q := 30) rfl dX7_film_27 f_X7_254 (fun h => by cases h) (hg.1 _ _ rfl) ?_
      refine xv_aload_n (q := 31) rfl dX7_film_30 rfl rfl ?_
      refine xv_iload_n (q := 32) rfl dX7_film_31 rfl rfl ?_
      refine xv_iconst (v := nI 0) (q := 33) rfl dX7_film_32 rfl ?_
      refine xv_iload_n (q := 34) rfl dX7_film_33 rfl rfl ?_
      refine xv_rV3 (z := mX7_sheet) (q := 37) rfl dX7_film_34 l_X7_341 gX7_sheet (hg.1 _ _ rfl) rfl rfl rfl (y_sheet (d := d) hg (sg := sg) (hS.cong (xi_off _ _ _ _ (by decide)) (xi_off _ _ _ _ (by decide)) (xi_off _ _ _ _ (by decide)) (xi_off _ _ _ _ (by decide))) (nI s) (nI 0) (nI m)) (by omega) ?_
      rintro _ _ J1 _ _ ⟨rfl, rfl, rfl, rfl, hS1, hF1⟩
      obtain ⟨it, hit⟩ := sht_film (sg := sg) zhs (show m ≤ 10 by omega) zh4
      rw [hit] at hS1
      have e53 : J1 61 = xi I 61 34 (nI (aln n)) 61 := hF1 61 (by decide) (by decide) (by decide) (by decide)
      have hC1 : MCw J1 n c dd := hK.cw.mv (fun k zh1 zh2 => (hF1 k (by omega) (by omega) (by omega) (by omega)).trans (xi_off _ _ _ _ (by omega))) (by rw [e53]; exact xi_ne _ _ _ _ (by decide)) (by rw [e53]; exact xi_ne _ _ _ _ (by decide))
      have hs1 := hS1 s zhs
      unfold va_up at hs1
      rw [if_pos rfl] at hs1
      obtain ⟨zg1, zg2, zg3, zg4, zg5, zg6⟩ := hs1
      refine xv_pop (q := 38) rfl dX7_film_37 rfl ?_
      refine xv_iconst (v := nI 0) (q := 39) rfl dX7_film_38 rfl ?_
      refine xv_istore_n (q := 40) rfl dX7_film_39 rfl rfl ?_
      refine m_film_loop (d := d + 1) (I := J1) hg zhs (show m ≤ 10 by omega) hC1 (by rw [e53]; exact xi_eq _ _ _ _) (fun J hF hO hJ => ?_) (m + 1) 0 J1 (by omega) (by omega) (fun _ _ => rfl) (fun _ _ => rfl) (fun a ha => absurd ha (by omega))
      refine ⟨rfl, rfl, rfl, rfl, ?_, fun k zh1 zh2 => ?_, fun j zhj => ?_⟩
      · have zhp := KMs.put (J := J) (s := s) (q := some (0, m, fun f => nI (wso c n dd (aln n) f))) hS1 ⟨show 0 < 3 by decide, show m ≤ 40 by omega, by rw [hF 78 (by decide)]; exact zg3, by rw [hF 79 (by decide)]; exact zg4, by rw [hF 80 (by decide)]; exact zg5, hJ⟩ (fun a _ => ⟨by rw [hF 78 (by decide)], by rw [hF 79 (by decide)], by rw [hF 80 (by decide)]⟩) (fun a i zh1 zh2 zh3 => hO _ (by omega))
        rw [up_up] at zhp
        exact zhp
      · rw [hF k (by omega), hF1 k (by omega) (by omega) (by omega) (by omega)]
        exact xi_off _ _ _ _ zh1
      · rw [hF 61 (by decide), e53]
        exact xi_ne _ _ _ _ (fun z => zhj z.2)
    · have h16 := of_decide_eq_true (Bool.not_eq_eq_eq_not.mp (bIz h16))
      refine xv_bipush (v := (-2)) (q := 21) rfl dX7_film_19 rfl ?_
      refine xv_iret dX7_film_21 rfl ?_
      rw [show sp_film sg n c dd x m = (-2, sg) from if_pos (Or.inr h16)]
      exact ⟨rfl, rfl, rfl, rfl, hS, fun _ _ _ => rfl, fun _ _ => rfl⟩
end MFILM

/-! the model: sheets -/
def KMs1 (I : XI) (s : Nat) : Option (Nat × Nat × (Nat → Int32)) → Prop
  | none => I 78 s = nI 0
  | some q => q.1 < 3 ∧ q.2.1 ≤ 40 ∧ I 78 s = nI 1 ∧ I 79 s = nI q.1 ∧ I 80 s = nI q.2.1 ∧ ∀ i, i < q.2.1 → I 81 (40 * s + i) = q.2.2 i
def KMs (I : XI) (sg : SG) : Prop := ∀ s, s < 4 → KMs1 I s (sg s)
theorem KMs.cong {I J : XI} {sg : SG} (h : KMs I sg) (zh0 : J 78 = I 78) (zh1 : J 79 = I 79) (zh2 : J 80 = I 80) (zh3 : J 81 = I 81) : KMs J sg := fun s zhs => by
  have := h s zhs
  cases zhq : sg s with
  | none => rw [zhq] at this; show J 78 s = _; rw [zh0]; exact this
  | some q => rw [zhq] at this; show _ ∧ _ ∧ J 78 s = _ ∧ J 79 s = _ ∧ J 80 s = _ ∧ _; rw [zh0, zh1, zh2, zh3]; exact this
theorem KMs.miss {I : XI} {sg : SG} {s : Nat} (h : KMs I sg) (zhs : s < 4) : (sg s = none ∧ I 78 s = nI 0) ∨ ∃ so ln it, sg s = some (so, ln, it) ∧ so < 3 ∧ ln ≤ 40 ∧ I 78 s = nI 1 ∧ I 79 s = nI so ∧ I 80 s = nI ln ∧ ∀ i, i < ln → I 81 (40 * s + i) = it i := by
  have := h s zhs
  cases zhq : sg s with
  | none => rw [zhq] at this; exact Or.inl ⟨rfl, this⟩
  | some q => rw [zhq] at this; obtain ⟨so, ln, it⟩ := q; exact Or.inr ⟨so, ln, it, rfl, this⟩
theorem KMs.put {I J : XI} {sg : SG} {s : Nat} {q : Option (Nat × Nat × (Nat → Int32))} (h : KMs I sg) (zhq : KMs1 J s q) (zh0 : ∀ a, a ≠ s → J 78 a = I 78 a ∧ J 79 a = I 79 a ∧ J 80 a = I 80 a) (zh3 : ∀ a i, a < 4 → a ≠ s → i < 40 → J 81 (40 * a + i) = I 81 (40 * a + i)) : KMs J (va_up sg s q) := by
  intro r hr
  by_cases e : r = s
  · subst e; unfold va_up; rw [if_pos rfl]; exact zhq
  · unfold va_up; rw [if_neg e]
    have := h r hr
    obtain ⟨zg0, zg1, zg2⟩ := zh0 r e
    cases zhz : sg r with
    | none => rw [zhz] at this; show J 78 r = _; rw [zg0]; exact this
    | some z =>
      rw [zhz] at this
      obtain ⟨za1, za2, za3, za4, za5, za6⟩ := this
      exact ⟨za1, za2, zg0.trans za3, zg1.trans za4, zg2.trans za5, fun i hi => (zh3 r i hr e (by omega)).trans (za6 i hi)⟩
theorem lin_N {m : Nat} (h : m < 2 ^ 29) (x : Int32) : lin x.toInt64 (lN 0) (nI m - nI 1).toInt64 = isR m x := by
  have ze1 : (nI m - nI 1).toInt64.toInt = (m : Int) - 1 := by
    rw [Int32.toInt_toInt64, pk_sub_toInt (by omega) (by decide)]; rfl
  have ze0 : (lN 0).toInt = 0 := rfl
  have hl := lin_iff (x := x) (a := lN 0) (b := (nI m - nI 1).toInt64)
  rw [ze1, ze0] at hl
  unfold isR
  rw [Bool.eq_iff_iff, decide_eq_true_iff, hl, Int32.lt_iff_toInt_lt, Int32.le_iff_toInt_le, nI_toInt (by omega)]
  simp only [Int32.toInt_zero]
  omega
theorem lin_s {x : Int32} : lin x.toInt64 (-1) 2 = !decide (x < -1 ∨ ¬ x < nI 3) := by
  have hl := lin_iff (x := x) (a := -1) (b := 2)
  have ze1 : (-1 : Int64).toInt = -1 := rfl
  have ze2 : (2 : Int64).toInt = 2 := rfl
  have ze3 : (-1 : Int32).toInt = -1 := rfl
  rw [ze1, ze2] at hl
  have e : (x < -1 ∨ ¬ x < nI 3) ↔ ¬ (-1 ≤ x.toInt ∧ x.toInt ≤ 2) := by
    rw [Int32.lt_iff_toInt_lt, Int32.lt_iff_toInt_lt, nI_toInt (by decide), ze3]
    omega
  by_cases h : x < -1 ∨ ¬ x < nI 3
  · rw [decide_eq_true h]
    cases zhq : lin x.toInt64 (-1) 2 with
    | false => rfl
    | true => exact absurd (hl.mp zhq) (e.mp h)
  · rw [decide_eq_false h]
    exact hl.mpr (Decidable.not_not.mp (fun q => h (e.mpr q)))
/-- the sheets' cells may have changed -/
def FMs (I J : XI) : Prop := ∀ k, k ≠ 78 → k ≠ 79 → k ≠ 80 → k ≠ 81 → J k = I k
section MSHEET
variable {E : XE} {d : Nat} {sh : XSh} {I : XI} {R : XRf} {L : XL} {n dd u : Nat} {c : CR} {sg : SG}
def QMS (ans : Int32) (sg : SG) (sh : XSh) (I : XI) (R : XRf) (L : XL) : XQ := fun v sh' J R' L' => v = some (.int ans) ∧ sh' = sh ∧ R' = R ∧ L' = L ∧ KMs J sg ∧ FMs I J
theorem QMS.same {ans : Int32} (h : KMs I sg) : QMS ans sg sh I R L (some (.int ans)) sh I R L := ⟨rfl, rfl, rfl, rfl, h, fun _ _ _ _ _ => rfl⟩
theorem m_sht_loop (hg : XG sh R) {s so m : Nat} (zhs : s < 4) (hm : m ≤ 40) (hso : so < 3) {Q : XQ} (KK : ∀ (J : XI) (l4 : Option Value), (∀ k, k ≠ 81 → J k = I k) → (∀ i, i < m → J 81 (40 * s + i) = nI 0) → (∀ x, (x < 40 * s ∨ 40 * s + m ≤ x) → J 81 x = I 81 x) → XV E mX7_sheet (d + 2) 0 0 Q 0 0 106 [some (.ref 61), some (.int (nI s)), some (.int (nI so)), some (.int (nI m)), l4] [] sh J R L) :
    ∀ (k i : Nat) (J : XI), i ≤ m → m < i + k → (∀ k, k ≠ 81 → J k = I k) → (∀ a, a < i → J 81 (40 * s + a) = nI 0) → (∀ x, (x < 40 * s ∨ 40 * s + m ≤ x) → J 81 x = I 81 x) → XV E mX7_sheet (d + 2) 0 0 Q 0 0 77 [some (.ref 61), some (.int (nI s)), some (.int (nI so)), some (.int (nI m)), some (.int (nI i))] [] sh J R L := by
  intro k
  induction k with
  | zero => intro i J zh1 zh2; exact absurd zh2 (by omega)
  | succ k ih =>
    intro i J zh1 zh2 hJ hI hO
    refine xv_iload (q := 79) rfl dX7_sheet_77 rfl ?_
    refine xv_iload_n (q := 80) rfl dX7_sheet_79 rfl rfl ?_
    refine xv_icmp_ge (q := 83) (t := 106) rfl rfl dX7_sheet_80 (fun h80 => ?_) (fun h80 => ?_)
    · have hi : i = m := by have := nIle h80 (by omega) (by omega); omega
      subst hi
      exact KK J _ hJ hI hO
    · have hi : i < m := nInle h80 (by omega) (by omega)
      refine xv_iload_n (q := 84) rfl dX7_sheet_83 rfl rfl ?_
      refine xv_if_lt (q := 87) (t := 106) rfl rfl dX7_sheet_84 (fun h84 => ?_) (fun h84 => ?_)
      · exact absurd h84 (nI_pos (by omega))
      · refine xv_aload_n (q := 88) rfl dX7_sheet_87 rfl rfl ?_
        refine xv_geta (q := 91) rfl dX7_sheet_88 f_X7_78 (hg.1 _ _ rfl) (hg.2 _ _ _ rfl) ?_
        refine xv_bipush (v := nI 40) (q := 93) rfl dX7_sheet_91 rfl ?_
        refine xv_iload_n (q := 94) rfl dX7_sheet_93 rfl rfl ?_
        refine xv_imul (q := 95) rfl dX7_sheet_94 ?_
        refine xv_as (w := nI (40 * s)) (pk_mul _ _) ?_
        refine xv_iload (q := 97) rfl dX7_sheet_95 rfl ?_
        refine xv_iadd (q := 98) rfl dX7_sheet_97 ?_
        refine xv_as (w := nI (40 * s + i)) (nI_add _ _) ?_
        refine xv_iconst (v := nI 0) (q := 99) rfl dX7_sheet_98 rfl ?_
        refine xv_iast (q := 100) rfl dX7_sheet_99 (hg.1 _ _ rfl) rfl (by omega) (by decide) ?_
        refine xv_iinc (q := 103) (v := nI 1) rfl dX7_sheet_100 rfl rfl ?_
        refine xv_goto (t := 77) rfl dX7_sheet_103 ?_
        rw [nI_add]
        refine ih (i + 1) _ (by omega) (by omega) (fun k hk => (xi_off _ _ _ _ hk).trans (hJ k hk)) (fun a ha => ?_) (fun x zhx => ?_)
        · by_cases e : a = i
          · subst e; rw [xi_eq]
          · rw [xi_ne _ _ _ _ (by omega)]; exact hI a (by omega)
        · rw [xi_ne _ _ _ _ (by omega)]; exact hO x zhx
theorem y_sheet (hg : XG sh R) (hK : KMs I sg) (x so m : Int32) : XC E mX7_sheet (d + 2) 0 0 [.ref 61, .int x, .int so, .int m] sh I R L (QMS (sp_sheet sg x so m).1 (sp_sheet sg x so m).2 sh I R L) := by
  refine XC.of (by decide) rfl rfl ?_
  refine xv_iload_n (q := 1) rfl dX7_sheet_0 rfl rfl ?_
  refine xv_cS1 (z := mX7_isSheet) (q := 4) rfl dX7_sheet_1 l_X7_329 gX7_isSheet rfl (m_isSh (d := d) x) (by omega) ?_
  refine xv_if_eq (q := 7) (t := 31) rfl rfl dX7_sheet_4 (fun zh4 => ?_) (fun zh4 => ?_)
  · have zh4 := bIz zh4
    refine xv_bipush (v := (-2)) (q := 33) rfl dX7_sheet_31 rfl ?_
    refine xv_iret dX7_sheet_33 rfl ?_
    rw [show sp_sheet sg x so m = (-2, sg) from if_pos (Or.inl zh4)]
    exact QMS.same hK
  · have zh4 := bIn zh4
    refine xv_iload_n (q := 8) rfl dX7_sheet_7 rfl rfl ?_
    refine xv_i2l (q := 9) rfl dX7_sheet_8 ?_
    refine xv_ldc2 (q := 12) rfl dX7_sheet_9 k_X7_360 ?_
    refine xv_ldc2 (q := 15) rfl dX7_sheet_12 k_X7_108 ?_
    refine xv_cS3 (z := mX7_in) (q := 18) rfl dX7_sheet_15 l_X7_91 gX7_in rfl (m_in (d := d + 1) _ _ _) (by omega) ?_
    rw [lin_s]
    refine xv_if_eq (q := 21) (t := 31) rfl rfl dX7_sheet_18 (fun h18 => ?_) (fun h18 => ?_)
    · have h18 : so < -1 ∨ ¬ so < nI 3 := by
        have := bIz h18
        rw [Bool.not_eq_false'] at this
        exact of_decide_eq_true this
      refine xv_bipush (v := (-2)) (q := 33) rfl dX7_sheet_31 rfl ?_
      refine xv_iret dX7_sheet_33 rfl ?_
      rw [show sp_sheet sg x so m = (-2, sg) from if_pos (Or.inr h18)]
      exact QMS.same hK
    · have h18 : ¬ (so < -1 ∨ ¬ so < nI 3) := by
        have := bIn h18
        rw [Bool.not_eq_true'] at this
        exact of_decide_eq_false this
      have hq0 : ¬ (isSh x = false ∨ so < -1 ∨ ¬ so < nI 3) := fun q => q.elim (fun q => by rw [zh4] at q; cases q) h18
      obtain ⟨s, hs4, rfl⟩ := isSh_of zh4
      refine xv_iload_n (q := 22) rfl dX7_sheet_21 rfl rfl ?_
      refine xv_if_lt (q := 25) (t := 34) rfl rfl dX7_sheet_22 (fun h22 => ?_) (fun h22 => ?_)
      · have hm1 : so = -1 := neg1 (fun q => h18 (Or.inl q)) h22
        subst hm1
        refine xv_iload_n (q := 35) rfl dX7_sheet_34 rfl rfl ?_
        refine xv_if_lt (q := 38) (t := 45) rfl rfl dX7_sheet_35 (fun h35 => ?_) (fun h35 => ?_)
        · refine xv_aload_n (q := 46) rfl dX7_sheet_45 rfl rfl ?_
          refine xv_geta (q := 49) rfl dX7_sheet_46 f_X7_68 (hg.1 _ _ rfl) (hg.2 _ _ _ rfl) ?_
          refine xv_iload_n (q := 50) rfl dX7_sheet_49 rfl rfl ?_
          refine xv_iload_n (q := 51) rfl dX7_sheet_50 rfl rfl ?_
          refine xv_if_lt (q := 54) (t := 58) rfl rfl dX7_sheet_51 (fun h51 => ?_) (fun h51 => ?_)
          · refine xv_iconst (v := nI 0) (q := 59) rfl dX7_sheet_58 rfl ?_
            refine xv_zast (q := 60) rfl dX7_sheet_59 (hg.1 78 _ rfl) rfl hs4 (by decide) (by decide) ?_
            refine xv_aload_n (q := 61) rfl dX7_sheet_60 rfl rfl ?_
            refine xv_geta (q := 64) rfl dX7_sheet_61 f_X7_72 (hg.1 _ _ rfl) (hg.2 _ _ _ rfl) ?_
            refine xv_iload_n (q := 65) rfl dX7_sheet_64 rfl rfl ?_
            refine xv_iload_n (q := 66) rfl dX7_sheet_65 rfl rfl ?_
            refine xv_iast (q := 67) rfl dX7_sheet_66 (hg.1 _ _ rfl) rfl hs4 (by decide) ?_
            refine xv_aload_n (q := 68) rfl dX7_sheet_67 rfl rfl ?_
            refine xv_geta (q := 71) rfl dX7_sheet_68 f_X7_75 (hg.1 _ _ rfl) (hg.2 _ _ _ rfl) ?_
            refine xv_iload_n (q := 72) rfl dX7_sheet_71 rfl rfl ?_
            refine xv_iload_n (q := 73) rfl dX7_sheet_72 rfl rfl ?_
            refine xv_iast (q := 74) rfl dX7_sheet_73 (hg.1 _ _ rfl) rfl hs4 (by decide) ?_
            refine xv_iconst (v := nI 0) (q := 75) rfl dX7_sheet_74 rfl ?_
            refine xv_istore (q := 77) rfl dX7_sheet_75 rfl ?_
            -- missing
            by_cases hm0 : m ≤ nI 0
            · refine xv_iload (q := 79) rfl dX7_sheet_77 rfl ?_
              refine xv_iload_n (q := 80) rfl dX7_sheet_79 rfl rfl ?_
              refine xv_icmp_ge (q := 83) (t := 106) rfl rfl dX7_sheet_80 (fun h80 => ?_) (fun h80 => ?_)
              · refine xv_iconst (v := nI 1) (q := 107) rfl dX7_sheet_106 rfl ?_
                refine xv_iret dX7_sheet_107 rfl ?_
                rw [show sp_sheet sg (nI s) (-1) m = (nI 1, va_up sg (nI s).toNatClampNeg none) from (if_neg hq0).trans (if_pos rfl), nI_clamp (n := s) (by omega)]
                refine ⟨rfl, rfl, rfl, rfl, hK.put ?_ (fun a ha => ⟨?_, ?_, ?_⟩) (fun a i ha hne2 hi => ?_), fun k zk1 zk2 zk3 zk4 => ?_⟩
                · show xi _ _ _ _ 78 s = nI 0
                  rw [xi_off _ _ _ _ (by decide), xi_off _ _ _ _ (by decide), xi_eq]
                · rw [xi_off _ _ _ _ (by decide), xi_off _ _ _ _ (by decide), xi_ne _ _ _ _ (by omega)]
                · rw [xi_off _ _ _ _ (by decide), xi_ne _ _ _ _ (by omega), xi_off _ _ _ _ (by decide)]
                · rw [xi_ne _ _ _ _ (by omega), xi_off _ _ _ _ (by decide), xi_off _ _ _ _ (by decide)]
                · rw [xi_off _ _ _ _ (by decide), xi_off _ _ _ _ (by decide), xi_off _ _ _ _ (by decide)]
                · rw [xi_off _ _ _ _ zk3, xi_off _ _ _ _ zk2, xi_off _ _ _ _ zk1]
              · exact absurd hm0 h80
            · refine xv_iload (q := 79) rfl dX7_sheet_77 rfl ?_
              refine xv_iload_n (q := 80) rfl dX7_sheet_79 rfl rfl ?_
              refine xv_icmp_ge (q := 83) (t := 106) rfl rfl dX7_sheet_80 (fun h80 => ?_) (fun h80 => ?_)
              · exact absurd h80 hm0
              · refine xv_iload_n (q := 84) rfl dX7_sheet_83 rfl rfl ?_
                refine xv_if_lt (q := 87) (t := 106) rfl rfl dX7_sheet_84 (fun h84 => ?_) (fun h84 => ?_)
                · refine xv_iconst (v := nI 1) (q := 107) rfl dX7_sheet_106 rfl ?_
                  refine xv_iret dX7_sheet_107 rfl ?_
                  rw [show sp_sheet sg (nI s) (-1) m = (nI 1, va_up sg (nI s).toNatClampNeg none) from (if_neg hq0).trans (if_pos rfl), nI_clamp (n := s) (by omega)]
                  refine ⟨rfl, rfl, rfl, rfl, hK.put ?_ (fun a ha => ⟨?_, ?_, ?_⟩) (fun a i ha hne2 hi => ?_), fun k zk1 zk2 zk3 zk4 => ?_⟩
                  · show xi _ _ _ _ 78 s = nI 0
                    rw [xi_off _ _ _ _ (by decide), xi_off _ _ _ _ (by decide), xi_eq]
                  · rw [xi_off _ _ _ _ (by decide), xi_off _ _ _ _ (by decide), xi_ne _ _ _ _ (by omega)]
                  · rw [xi_off _ _ _ _ (by decide), xi_ne _ _ _ _ (by omega), xi_off _ _ _ _ (by decide)]
                  · rw [xi_ne _ _ _ _ (by omega), xi_off _ _ _ _ (by decide), xi_off _ _ _ _ (by decide)]
                  · rw [xi_off _ _ _ _ (by decide), xi_off _ _ _ _ (by decide), xi_off _ _ _ _ (by decide)]
                  · rw [xi_off _ _ _ _ zk3, xi_off _ _ _ _ zk2, xi_off _ _ _ _ zk1]
                · exact absurd (by decide) h84
          · exact absurd h22 h51
        · exact absurd h22 h35
      · have hne : ¬ so = -1 := fun q => h22 (by rw [q]; decide)
        obtain ⟨w, hw, rfl⟩ : ∃ j, j < 3 ∧ so = nI j := by
          rcases pk_ix so (n := 3) (by decide) with z | z | z
          · exact absurd z h22
          · exact absurd (Decidable.not_not.mp (fun q => h18 (Or.inr q))) (ilen z)
          · exact z
        refine xv_iload_n (q := 26) rfl dX7_sheet_25 rfl rfl ?_
        refine xv_bipush (v := nI 40) (q := 28) rfl dX7_sheet_26 rfl ?_
        refine xv_icmp_le (q := 31) (t := 34) rfl rfl dX7_sheet_28 (fun h28 => ?_) (fun h28 => ?_)
        · refine xv_iload_n (q := 35) rfl dX7_sheet_34 rfl rfl ?_
          refine xv_if_lt (q := 38) (t := 45) rfl rfl dX7_sheet_35 (fun h35 => ?_) (fun h35 => ?_)
          · exact absurd h35 h22
          · refine xv_iload_n (q := 39) rfl dX7_sheet_38 rfl rfl ?_
            refine xv_if_ge (q := 42) (t := 45) rfl rfl dX7_sheet_39 (fun h39 => ?_) (fun h39 => ?_)
            · obtain ⟨m, hm40, rfl⟩ := nI_of2 (n := 40) (M := nI 40) (by decide) (fun z => absurd h39 (ilef z)) h28
              refine xv_aload_n (q := 46) rfl dX7_sheet_45 rfl rfl ?_
              refine xv_geta (q := 49) rfl dX7_sheet_46 f_X7_68 (hg.1 _ _ rfl) (hg.2 _ _ _ rfl) ?_
              refine xv_iload_n (q := 50) rfl dX7_sheet_49 rfl rfl ?_
              refine xv_iload_n (q := 51) rfl dX7_sheet_50 rfl rfl ?_
              refine xv_if_lt (q := 54) (t := 58) rfl rfl dX7_sheet_51 (fun h51 => ?_) (fun h51 => ?_)
              · exact absurd h51 h22
              · refine xv_iconst (v := nI 1) (q := 55) rfl dX7_sheet_54 rfl ?_
                refine xv_goto (t := 59) rfl dX7_sheet_55 ?_
                refine xv_zast (q := 60) rfl dX7_sheet_59 (hg.1 78 _ rfl) rfl hs4 (by decide) (by decide) ?_
                refine xv_aload_n (q := 61) rfl dX7_sheet_60 rfl rfl ?_
                refine xv_geta (q := 64) rfl dX7_sheet_61 f_X7_72 (hg.1 _ _ rfl) (hg.2 _ _ _ rfl) ?_
                refine xv_iload_n (q := 65) rfl dX7_sheet_64 rfl rfl ?_
                refine xv_iload_n (q := 66) rfl dX7_sheet_65 rfl rfl ?_
                refine xv_iast (q := 67) rfl dX7_sheet_66 (hg.1 _ _ rfl) rfl hs4 (by decide) ?_
                refine xv_aload_n (q := 68) rfl dX7_sheet_67 rfl rfl ?_
                refine xv_geta (q := 71) rfl dX7_sheet_68 f_X7_75 (hg.1 _ _ rfl) (hg.2 _ _ _ rfl) ?_
                refine xv_iload_n (q := 72) rfl dX7_sheet_71 rfl rfl ?_
                refine xv_iload_n (q := 73) rfl dX7_sheet_72 rfl rfl ?_
                refine xv_iast (q := 74) rfl dX7_sheet_73 (hg.1 _ _ rfl) rfl hs4 (by decide) ?_
                refine xv_iconst (v := nI 0) (q := 75) rfl dX7_sheet_74 rfl ?_
                refine xv_istore (q := 77) rfl dX7_sheet_75 rfl ?_
                refine m_sht_loop (I := xi (xi (xi I 78 s (nI 1)) 79 s (nI w)) 80 s (nI m)) hg hs4 hm40 hw (fun J l4 zb1 zb2 zb3 => ?_) (m + 1) 0 _ (by omega) (by omega) (fun _ _ => rfl) (fun a ha => absurd ha (Nat.not_lt_zero a)) (fun _ _ => rfl)
                refine xv_iconst (v := nI 1) (q := 107) rfl dX7_sheet_106 rfl ?_
                refine xv_iret dX7_sheet_107 rfl ?_
                rw [show sp_sheet sg (nI s) (nI w) (nI m) = (nI 1, va_up sg (nI s).toNatClampNeg (some ((nI w).toNatClampNeg, (nI m).toNatClampNeg, fun _ => nI 0))) from (if_neg hq0).trans ((if_neg hne).trans ((if_neg (fun z => z h28)).trans (if_neg (fun z => z h39)))), nI_clamp (n := s) (by omega), nI_clamp (n := w) (by omega), nI_clamp (n := m) (by omega)]
                refine ⟨rfl, rfl, rfl, rfl, hK.put ⟨hw, hm40, ?_, ?_, ?_, fun i hi => zb2 i hi⟩ (fun a ha => ⟨?_, ?_, ?_⟩) (fun a i ha hne2 hi => ?_), fun k zk1 zk2 zk3 zk4 => ?_⟩
                · rw [zb1 78 (by decide), xi_off _ _ _ _ (by decide), xi_off _ _ _ _ (by decide), xi_eq]
                · rw [zb1 79 (by decide), xi_off _ _ _ _ (by decide), xi_eq]
                · rw [zb1 80 (by decide), xi_eq]
                · rw [zb1 78 (by decide), xi_off _ _ _ _ (by decide), xi_off _ _ _ _ (by decide), xi_ne _ _ _ _ (by omega)]
                · rw [zb1 79 (by decide), xi_off _ _ _ _ (by decide), xi_ne _ _ _ _ (by omega), xi_off _ _ _ _ (by decide)]
                · rw [zb1 80 (by decide), xi_ne _ _ _ _ (by omega), xi_off _ _ _ _ (by decide), xi_off _ _ _ _ (by decide)]
                · rw [zb3 _ (by omega), xi_off _ _ _ _ (by decide), xi_off _ _ _ _ (by decide), xi_off _ _ _ _ (by decide)]
                · rw [zb1 k zk4, xi_off _ _ _ _ zk3, xi_off _ _ _ _ zk2, xi_off _ _ _ _ zk1]
            · refine xv_bipush (v := (-14)) (q := 44) rfl dX7_sheet_42 rfl ?_
              refine xv_iret dX7_sheet_44 rfl ?_
              rw [show sp_sheet sg (nI s) (nI w) m = (-14, sg) from (if_neg hq0).trans ((if_neg hne).trans ((if_neg (fun z => z h28)).trans (if_pos h39)))]
              exact QMS.same hK
        · refine xv_bipush (v := (-2)) (q := 33) rfl dX7_sheet_31 rfl ?_
          refine xv_iret dX7_sheet_33 rfl ?_
          rw [show sp_sheet sg (nI s) (nI w) m = (-2, sg) from (if_neg hq0).trans ((if_neg hne).trans (if_pos h28))]
          exact QMS.same hK
theorem y_cell (hg : XG sh R) (hK : KMs I sg) (x i v : Int32) : XC E mX7_cell (d + 2) 0 0 [.ref 61, .int x, .int i, .int v] sh I R L (QMS (sp_cell sg x i v).1 (sp_cell sg x i v).2 sh I R L) := by
  refine XC.of (by decide) rfl rfl ?_
  refine xv_iload_n (q := 1) rfl dX7_cell_0 rfl rfl ?_
  refine xv_cS1 (z := mX7_isSheet) (q := 4) rfl dX7_cell_1 l_X7_329 gX7_isSheet rfl (m_isSh (d := d) x) (by omega) ?_
  refine xv_if_ne (q := 7) (t := 10) rfl rfl dX7_cell_4 (fun zh4 => ?_) (fun zh4 => ?_)
  · have zh4 := bIn zh4
    obtain ⟨s, hs4, rfl⟩ := isSh_of zh4
    refine xv_aload_n (q := 11) rfl dX7_cell_10 rfl rfl ?_
    refine xv_geta (q := 14) rfl dX7_cell_11 f_X7_68 (hg.1 _ _ rfl) (hg.2 _ _ _ rfl) ?_
    refine xv_iload_n (q := 15) rfl dX7_cell_14 rfl rfl ?_
    refine xv_zald (q := 16) rfl dX7_cell_15 (hg.1 _ _ rfl) rfl hs4 (by decide) ?_
    refine xv_if_ne (q := 19) (t := 22) rfl rfl dX7_cell_16 (fun h16 => ?_) (fun h16 => ?_)
    · rcases hK.miss hs4 with ⟨-, z⟩ | ⟨so, ln, it, e, zq1, zq2, zq3, zq4, zq5, zq6⟩
      · exact absurd z h16
      rw [sp_cell_s zh4 hs4 e]
      refine xv_iload_n (q := 23) rfl dX7_cell_22 rfl rfl ?_
      refine xv_i2l (q := 24) rfl dX7_cell_23 ?_
      refine xv_lconst (v := lN 0) (q := 25) rfl dX7_cell_24 rfl ?_
      refine xv_aload_n (q := 26) rfl dX7_cell_25 rfl rfl ?_
      refine xv_geta (q := 29) rfl dX7_cell_26 f_X7_75 (hg.1 _ _ rfl) (hg.2 _ _ _ rfl) ?_
      refine xv_iload_n (q := 30) rfl dX7_cell_29 rfl rfl ?_
      refine xv_iald (q := 31) rfl dX7_cell_30 (hg.1 _ _ rfl) rfl hs4 (by decide) ?_
      rw [zq5]
      refine xv_iconst (v := nI 1) (q := 32) rfl dX7_cell_31 rfl ?_
      refine xv_isub (q := 33) rfl dX7_cell_32 ?_
      refine xv_i2l (q := 34) rfl dX7_cell_33 ?_
      refine xv_cS3 (z := mX7_in) (q := 37) rfl dX7_cell_34 l_X7_91 gX7_in rfl (m_in (d := d + 1) _ _ _) (by omega) ?_
      rw [lin_N (by omega)]
      refine xv_if_ne (q := 40) (t := 43) rfl rfl dX7_cell_37 (fun h37 => ?_) (fun h37 => ?_)
      · have h37 := bIn h37
        obtain ⟨i, hi, rfl⟩ := isR_nI (by omega) h37
        rw [if_neg (show ¬ (nI i < 0 ∨ ¬ nI i < nI ln) from fun q => q.elim (nI_pos (by omega)) (fun q => q (nI_lt hi (by omega)))), nI_clamp (n := i) (by omega)]
        refine xv_aload_n (q := 44) rfl dX7_cell_43 rfl rfl ?_
        refine xv_geta (q := 47) rfl dX7_cell_44 f_X7_78 (hg.1 _ _ rfl) (hg.2 _ _ _ rfl) ?_
        refine xv_bipush (v := nI 40) (q := 49) rfl dX7_cell_47 rfl ?_
        refine xv_iload_n (q := 50) rfl dX7_cell_49 rfl rfl ?_
        refine xv_imul (q := 51) rfl dX7_cell_50 ?_
        refine xv_as (w := nI (40 * s)) (pk_mul _ _) ?_
        refine xv_iload_n (q := 52) rfl dX7_cell_51 rfl rfl ?_
        refine xv_iadd (q := 53) rfl dX7_cell_52 ?_
        refine xv_as (w := nI (40 * s + i)) (nI_add _ _) ?_
        refine xv_aload_n (q := 54) rfl dX7_cell_53 rfl rfl ?_
        refine xv_geta (q := 57) rfl dX7_cell_54 f_X7_72 (hg.1 _ _ rfl) (hg.2 _ _ _ rfl) ?_
        refine xv_iload_n (q := 58) rfl dX7_cell_57 rfl rfl ?_
        refine xv_iald (q := 59) rfl dX7_cell_58 (hg.1 _ _ rfl) rfl hs4 (by decide) ?_
        rw [zq4]
        refine xv_if_ne (q := 62) (t := 67) rfl rfl dX7_cell_59 (fun h59 => ?_) (fun h59 => ?_)
        · refine xv_aload_n (q := 68) rfl dX7_cell_67 rfl rfl ?_
          refine xv_geta (q := 71) rfl dX7_cell_68 f_X7_72 (hg.1 _ _ rfl) (hg.2 _ _ _ rfl) ?_
          refine xv_iload_n (q := 72) rfl dX7_cell_71 rfl rfl ?_
          refine xv_iald (q := 73) rfl dX7_cell_72 (hg.1 _ _ rfl) rfl hs4 (by decide) ?_
          rw [zq4]
          refine xv_iconst (v := nI 1) (q := 74) rfl dX7_cell_73 rfl ?_
          refine xv_icmp_ne (q := 77) (t := 82) rfl rfl dX7_cell_74 (fun h74 => ?_) (fun h74 => ?_)
          · refine xv_iload_n (q := 83) rfl dX7_cell_82 rfl rfl ?_
            refine xv_as (w := nrw (nI so) v) (by unfold nrw; rw [if_neg h59, if_neg h74]) ?_
            refine xv_iast (q := 84) rfl dX7_cell_83 (hg.1 _ _ rfl) rfl (by omega) (by decide) ?_
            refine xv_iconst (v := nI 1) (q := 85) rfl dX7_cell_84 rfl ?_
            refine xv_iret dX7_cell_85 rfl ?_
            refine ⟨rfl, rfl, rfl, rfl, hK.put ⟨zq1, zq2, ?_, ?_, ?_, fun b zhb => ?_⟩ (fun a ha => ⟨congrFun (xi_off _ _ _ _ (by decide)) a, congrFun (xi_off _ _ _ _ (by decide)) a, congrFun (xi_off _ _ _ _ (by decide)) a⟩) (fun a b ha hne zhb => xi_ne _ _ _ _ (by omega)), fun k zk1 zk2 zk3 zk4 => xi_off _ _ _ _ zk4⟩
            · rw [xi_off _ _ _ _ (by decide)]; exact zq3
            · rw [xi_off _ _ _ _ (by decide)]; exact zq4
            · rw [xi_off _ _ _ _ (by decide)]; exact zq5
            · show xi I 81 (40 * s + i) _ 81 (40 * s + b) = upd it i _ b
              by_cases ze2 : b = i
              · subst ze2; rw [xi_eq]; simp [upd]
              · rw [xi_ne _ _ _ _ (by omega)]; simp [upd, ze2]; exact zq6 b zhb
          · refine xv_iload_n (q := 78) rfl dX7_cell_77 rfl rfl ?_
            refine xv_i2s (q := 79) rfl dX7_cell_78 ?_
            refine xv_goto (t := 83) rfl dX7_cell_79 ?_
            refine xv_as (w := nrw (nI so) v) (by unfold nrw; rw [if_neg h59, if_pos h74]) ?_
            refine xv_iast (q := 84) rfl dX7_cell_83 (hg.1 _ _ rfl) rfl (by omega) (by decide) ?_
            refine xv_iconst (v := nI 1) (q := 85) rfl dX7_cell_84 rfl ?_
            refine xv_iret dX7_cell_85 rfl ?_
            refine ⟨rfl, rfl, rfl, rfl, hK.put ⟨zq1, zq2, ?_, ?_, ?_, fun b zhb => ?_⟩ (fun a ha => ⟨congrFun (xi_off _ _ _ _ (by decide)) a, congrFun (xi_off _ _ _ _ (by decide)) a, congrFun (xi_off _ _ _ _ (by decide)) a⟩) (fun a b ha hne zhb => xi_ne _ _ _ _ (by omega)), fun k zk1 zk2 zk3 zk4 => xi_off _ _ _ _ zk4⟩
            · rw [xi_off _ _ _ _ (by decide)]; exact zq3
            · rw [xi_off _ _ _ _ (by decide)]; exact zq4
            · rw [xi_off _ _ _ _ (by decide)]; exact zq5
            · show xi I 81 (40 * s + i) _ 81 (40 * s + b) = upd it i _ b
              by_cases ze2 : b = i
              · subst ze2; rw [xi_eq]; simp [upd]
              · rw [xi_ne _ _ _ _ (by omega)]; simp [upd, ze2]; exact zq6 b zhb
        · refine xv_iload_n (q := 63) rfl dX7_cell_62 rfl rfl ?_
          refine xv_i2b (q := 64) rfl dX7_cell_63 ?_
          refine xv_goto (t := 83) rfl dX7_cell_64 ?_
          refine xv_as (w := nrw (nI so) v) (by unfold nrw; rw [if_pos h59]) ?_
          refine xv_iast (q := 84) rfl dX7_cell_83 (hg.1 _ _ rfl) rfl (by omega) (by decide) ?_
          refine xv_iconst (v := nI 1) (q := 85) rfl dX7_cell_84 rfl ?_
          refine xv_iret dX7_cell_85 rfl ?_
          refine ⟨rfl, rfl, rfl, rfl, hK.put ⟨zq1, zq2, ?_, ?_, ?_, fun b zhb => ?_⟩ (fun a ha => ⟨congrFun (xi_off _ _ _ _ (by decide)) a, congrFun (xi_off _ _ _ _ (by decide)) a, congrFun (xi_off _ _ _ _ (by decide)) a⟩) (fun a b ha hne zhb => xi_ne _ _ _ _ (by omega)), fun k zk1 zk2 zk3 zk4 => xi_off _ _ _ _ zk4⟩
          · rw [xi_off _ _ _ _ (by decide)]; exact zq3
          · rw [xi_off _ _ _ _ (by decide)]; exact zq4
          · rw [xi_off _ _ _ _ (by decide)]; exact zq5
          · show xi I 81 (40 * s + i) _ 81 (40 * s + b) = upd it i _ b
            by_cases ze2 : b = i
            · subst ze2; rw [xi_eq]; simp [upd]
            · rw [xi_ne _ _ _ _ (by omega)]; simp [upd, ze2]; exact zq6 b zhb
      · have h37 := bIz h37
        refine xv_bipush (v := (-12)) (q := 42) rfl dX7_cell_40 rfl ?_
        refine xv_iret dX7_cell_42 rfl ?_
        rw [if_pos (by
          by_cases zh1 : i < 0
          · exact Or.inl zh1
          · exact Or.inr (fun zh2 => isR_f h37 ⟨zh1, fun zh3 => Int32.lt_irrefl (Int32.lt_of_lt_of_le zh2 zh3)⟩))]
        exact QMS.same hK
    · have hn : sg s = none := by
        rcases hK.miss hs4 with ⟨z, -⟩ | ⟨so, ln, it, e, zq1, zq2, zq3, -⟩
        · exact z
        · rw [h16] at zq3; exact absurd zq3 (by decide)
      refine xv_bipush (v := (-11)) (q := 21) rfl dX7_cell_19 rfl ?_
      refine xv_iret dX7_cell_21 rfl ?_
      rw [sp_cell_n zh4 hs4 hn]
      exact QMS.same hK
  · have zh4 := bIz zh4
    refine xv_bipush (v := (-2)) (q := 9) rfl dX7_cell_7 rfl ?_
    refine xv_iret dX7_cell_9 rfl ?_
    rw [sp_cell_b zh4]
    exact QMS.same hK
end MSHEET

/-! the model: riders -/
theorem lin_0 {x : Int32} {B : Int64} {b : Nat} (hB : B.toInt = b) (zhb : b < 2 ^ 30) : lin x.toInt64 (lN 0) B = isR (b + 1) x := by
  have hl := lin_iff (x := x) (a := lN 0) (b := B)
  have ze0 : (lN 0).toInt = 0 := rfl
  rw [ze0, hB] at hl
  unfold isR
  rw [Bool.eq_iff_iff, decide_eq_true_iff, hl, Int32.lt_iff_toInt_lt, Int32.le_iff_toInt_le, nI_toInt (by omega)]
  simp only [Int32.toInt_zero]
  omega
theorem isR_nI {n : Nat} {x : Int32} (hn : n < 2 ^ 30) (h : isR n x = true) : ∃ r, r < n ∧ x = nI r := by
  have := of_decide_eq_true h
  rcases pk_ix x (n := n) (by omega) with z | z | z
  · exact absurd z this.1
  · exact absurd z this.2
  · exact z
theorem isR_f {n : Nat} {x : Int32} (h : isR n x = false) : ¬ (¬ x < 0 ∧ ¬ nI n ≤ x) := of_decide_eq_false h
theorem isR_t {n r : Nat} (h : r < n) (hn : n < 2 ^ 30) : isR n (nI r) = true := decide_eq_true ⟨nI_pos (by omega), fun q => absurd (nIle q (by omega) (by omega)) (by omega)⟩
theorem okr_1 {k w y : Int32} (h : isR 6 k = false) : ¬ okr k w y = true := fun q => isR_f h ⟨(of_decide_eq_true q).1, (of_decide_eq_true q).2.1⟩
theorem okr_2 {k w y : Int32} (h : isR 100 w = false) : ¬ okr k w y = true := fun q => isR_f h ⟨(of_decide_eq_true q).2.2.1, fun z => (of_decide_eq_true q).2.2.2.1 (Int32.lt_of_lt_of_le (by decide) z)⟩
theorem okr_3 {k w y : Int32} (h : isR 900 y = false) : ¬ okr k w y = true := fun q => by
  obtain ⟨a, b, z, rfl, rfl, rfl, zh1, zh2, zh3, zh4, zh5, zh6⟩ := okr_of q
  rw [isR_t (show z < 900 by omega) (by decide)] at h; cases h
theorem okr_4 {a b z : Nat} (zhz : z < 900) (h : ¬ (z / 100 < z / 10 % 10 ∧ z % 10 < 6)) : ¬ okr (nI a) (nI b) (nI z) = true := fun q => by
  obtain ⟨-, -, z', -, -, zh3, -, -, zh4, zh5, zh6, zh7⟩ := okr_of q
  have := nIe zh3 (by omega) zh4
  subst this
  exact h ⟨zh6, zh7⟩
theorem okr_5 {a b z : Nat} (ha : a < 6) (zhb : b < 100) (zhz : z < 900) (zh1 : z / 100 < z / 10 % 10) (zh2 : z % 10 < 6) : okr (nI a) (nI b) (nI z) = true :=
  decide_eq_true ⟨nI_pos (by omega), fun q => absurd (nIle q (by omega) (by omega)) (by omega), nI_pos (by omega), fun q => absurd (nIlt q (by omega) (by omega)) (by omega), decide_eq_true ⟨nI_pos (by omega), by rw [nI_clamp (n := z) (by omega)]; exact ⟨by omega, zh1, zh2⟩⟩⟩
theorem ym7 (I : XI) (n : Nat) (x0 x1 x2 x3 x4 x5 x6 : Int32) : ∀ w r, w < 7 → xi (xi (xi (xi (xi (xi (xi I 65 n x0) 66 n x1) 67 n x2) 68 n x3) 69 n x4) 70 n x5) 71 n x6 (64 + 1 + w) r = if r = n then (match w with | 0 => x0 | 1 => x1 | 2 => x2 | 3 => x3 | 4 => x4 | 5 => x5 | _ => x6) else I (64 + 1 + w) r := by
  intro w r hw
  rcases w7 hw with rfl | rfl | rfl | rfl | rfl | rfl | rfl <;> (by_cases h : r = n <;> simp [xi, upd, h])
theorem ym7o (I : XI) (n : Nat) (x0 x1 x2 x3 x4 x5 x6 : Int32) : ∀ k, (k < 65 ∨ 72 ≤ k) → xi (xi (xi (xi (xi (xi (xi I 65 n x0) 66 n x1) 67 n x2) 68 n x3) 69 n x4) 70 n x5) 71 n x6 k = I k := by
  intro k hk
  rw [xi_off _ _ _ _ (by omega), xi_off _ _ _ _ (by omega), xi_off _ _ _ _ (by omega), xi_off _ _ _ _ (by omega), xi_off _ _ _ _ (by omega), xi_off _ _ _ _ (by omega), xi_off _ _ _ _ (by omega)]
/-- rows 65 .. 71, and the field f, may have changed -/
def FMr (I J : XI) (f : Nat) : Prop := (∀ k, k ≠ 61 → (k < 65 ∨ 72 ≤ k) → J k = I k) ∧ ∀ j, j ≠ f → J 61 j = I 61 j
theorem FMr.rf {I : XI} {f : Nat} : FMr I I f := ⟨fun _ _ _ => rfl, fun _ _ => rfl⟩
theorem FMr.trans {I J K : XI} {f : Nat} (h : FMr I J f) (zh2 : FMr J K f) : FMr I K f := ⟨fun k a b => (zh2.1 k a b).trans (h.1 k a b), fun j a => (zh2.2 j a).trans (h.2 j a)⟩
section MRIDERS
variable {E : XE} {d : Nat} {sh : XSh} {I : XI} {R : XRf} {L : XL} {n dd u : Nat} {c : CR}
def QMr (q : Int32 × Nat × CR) (dd u : Nat) (sh : XSh) (I : XI) (R : XRf) (L : XL) : XQ := fun v sh' J R' L' => v = some (.int q.1) ∧ sh' = sh ∧ R' = R ∧ L' = L ∧ MKc J q.2.1 q.2.2 dd u ∧ FMr I J 15
theorem QMr.same {ans : Int32} (h : MKc I n c dd u) : QMr (ans, n, c) dd u sh I R L (some (.int ans)) sh I R L := ⟨rfl, rfl, rfl, rfl, h, FMr.rf⟩
theorem y_rider (hg : XG sh R) (hK : MKc I n c dd u) (k w y : Int32) : XC E mX7_rider (d + 1) 0 0 [.ref 61, .int k, .int w, .int y] sh I R L (QMr (sp_rider n c k w y) dd u sh I R L) := by
  obtain ⟨hm, hn, hn5, hdd, hd2, hu, hwf⟩ := id hK
  refine XC.of (by decide) rfl rfl ?_
  refine xv_iload_n (q := 1) rfl dX7_rider_0 rfl rfl ?_
  refine xv_i2l (q := 2) rfl dX7_rider_1 ?_
  refine xv_lconst (v := lN 0) (q := 3) rfl dX7_rider_2 rfl ?_
  refine xv_ldc2 (q := 6) rfl dX7_rider_3 k_X7_95 ?_
  refine xv_cS3 (z := mX7_in) (q := 9) rfl dX7_rider_6 l_X7_91 gX7_in rfl (m_in (d := d) _ _ _) (by omega) ?_
  rw [lin_0 (b := 5) rfl (by decide)]
  refine xv_if_eq (q := 12) (t := 36) rfl rfl dX7_rider_9 (fun zh9 => ?_) (fun zh9 => ?_)
  · have zh9 := bIz zh9
    refine xv_bipush (v := (-2)) (q := 38) rfl dX7_rider_36 rfl ?_
    refine xv_iret dX7_rider_38 rfl ?_
    rw [show sp_rider n c k w y = (-2, n, c) from if_neg (okr_1 zh9)]
    exact QMr.same hK
  · have zh9 := bIn zh9
    refine xv_iload_n (q := 13) rfl dX7_rider_12 rfl rfl ?_
    refine xv_i2l (q := 14) rfl dX7_rider_13 ?_
    refine xv_lconst (v := lN 0) (q := 15) rfl dX7_rider_14 rfl ?_
    refine xv_ldc2 (q := 18) rfl dX7_rider_15 k_X7_97 ?_
    refine xv_cS3 (z := mX7_in) (q := 21) rfl dX7_rider_18 l_X7_91 gX7_in rfl (m_in (d := d) _ _ _) (by omega) ?_
    rw [lin_0 (b := 99) rfl (by decide)]
    refine xv_if_eq (q := 24) (t := 36) rfl rfl dX7_rider_21 (fun h21 => ?_) (fun h21 => ?_)
    · have h21 := bIz h21
      refine xv_bipush (v := (-2)) (q := 38) rfl dX7_rider_36 rfl ?_
      refine xv_iret dX7_rider_38 rfl ?_
      rw [show sp_rider n c k w y = (-2, n, c) from if_neg (okr_2 h21)]
      exact QMr.same hK
    · have h21 := bIn h21
      refine xv_iload_n (q := 25) rfl dX7_rider_24 rfl rfl ?_
      refine xv_i2l (q := 26) rfl dX7_rider_25 ?_
      refine xv_lconst (v := lN 0) (q := 27) rfl dX7_rider_26 rfl ?_
      refine xv_ldc2 (q := 30) rfl dX7_rider_27 k_X7_99 ?_
      refine xv_cS3 (z := mX7_in) (q := 33) rfl dX7_rider_30 l_X7_91 gX7_in rfl (m_in (d := d) _ _ _) (by omega) ?_
      rw [lin_0 (b := 899) rfl (by decide)]
      refine xv_if_ne (q := 36) (t := 39) rfl rfl dX7_rider_33 (fun h33 => ?_) (fun h33 => ?_)
      · have h33 := bIn h33
        obtain ⟨a, ha, rfl⟩ := isR_nI (by decide) zh9
        obtain ⟨b, zhb, rfl⟩ := isR_nI (by decide) h21
        obtain ⟨z, zhz, rfl⟩ := isR_nI (by decide) h33
        refine xv_iload_n (q := 40) rfl dX7_rider_39 rfl rfl ?_
        refine xv_bipush (v := nI 100) (q := 42) rfl dX7_rider_40 rfl ?_
        refine xv_idiv (q := 43) rfl dX7_rider_42 (by decide) ?_
        refine xv_as (w := nI (z / 100)) (pk_div (by omega) (by decide) (by decide)) ?_
        refine xv_istore (q := 45) rfl dX7_rider_43 rfl ?_
        refine xv_iload_n (q := 46) rfl dX7_rider_45 rfl rfl ?_
        refine xv_bipush (v := nI 10) (q := 48) rfl dX7_rider_46 rfl ?_
        refine xv_idiv (q := 49) rfl dX7_rider_48 (by decide) ?_
        refine xv_as (w := nI (z / 10)) (pk_div (by omega) (by decide) (by decide)) ?_
        refine xv_bipush (v := nI 10) (q := 51) rfl dX7_rider_49 rfl ?_
        refine xv_irem (q := 52) rfl dX7_rider_51 (by decide) ?_
        refine xv_as (w := nI (z / 10 % 10)) (pk_rem (by omega) (by decide) (by decide)) ?_
        refine xv_istore (q := 54) rfl dX7_rider_52 rfl ?_
        refine xv_iload (q := 56) rfl dX7_rider_54 rfl ?_
        refine xv_iload (q := 58) rfl dX7_rider_56 rfl ?_
        refine xv_icmp_le (q := 61) (t := 70) rfl rfl dX7_rider_58 (fun h58 => ?_) (fun h58 => ?_)
        · have h58 := nIle h58 (by omega) (by omega)
          refine xv_bipush (v := (-2)) (q := 72) rfl dX7_rider_70 rfl ?_
          refine xv_iret dX7_rider_72 rfl ?_
          rw [show sp_rider n c (nI a) (nI b) (nI z) = (-2, n, c) from if_neg (okr_4 zhz (fun q => by have := q.1; omega))]
          exact QMr.same hK
        · have h58 := nInle h58 (by omega) (by omega)
          refine xv_iload_n (q := 62) rfl dX7_rider_61 rfl rfl ?_
          refine xv_bipush (v := nI 10) (q := 64) rfl dX7_rider_62 rfl ?_
          refine xv_irem (q := 65) rfl dX7_rider_64 (by decide) ?_
          refine xv_as (w := nI (z % 10)) (pk_rem (by omega) (by decide) (by decide)) ?_
          refine xv_bipush (v := nI 6) (q := 67) rfl dX7_rider_65 rfl ?_
          refine xv_icmp_lt (q := 70) (t := 73) rfl rfl dX7_rider_67 (fun h67 => ?_) (fun h67 => ?_)
          · have h67 := nIlt h67 (by omega) (by omega)
            have hok := okr_5 ha zhb zhz h58 h67
            refine xv_aload_n (q := 74) rfl dX7_rider_73 rfl rfl ?_
            refine xv_geti (q := 77) rfl dX7_rider_74 f_X7_88 (hg.1 _ _ rfl) ?_
            rw [hn]
            refine xv_iconst (v := nI 5) (q := 78) rfl dX7_rider_77 rfl ?_
            refine xv_icmp_ne (q := 81) (t := 84) rfl rfl dX7_rider_78 (fun h78 => ?_) (fun h78 => ?_)
            · have h78 : ¬ n = 5 := fun q => h78 (by rw [q])
              refine xv_aload_n (q := 85) rfl dX7_rider_84 rfl rfl ?_
              refine xv_geta (q := 88) rfl dX7_rider_85 f_X7_26 (hg.1 _ _ rfl) (hg.2 _ _ _ rfl) ?_
              refine xv_aload_n (q := 89) rfl dX7_rider_88 rfl rfl ?_
              refine xv_geti (q := 92) rfl dX7_rider_89 f_X7_88 (hg.1 _ _ rfl) ?_
              simp only [xi_off _ _ _ _ (show (61 : Nat) ≠ 65 by decide), xi_off _ _ _ _ (show (61 : Nat) ≠ 66 by decide), xi_off _ _ _ _ (show (61 : Nat) ≠ 67 by decide), xi_off _ _ _ _ (show (61 : Nat) ≠ 68 by decide), xi_off _ _ _ _ (show (61 : Nat) ≠ 69 by decide), xi_off _ _ _ _ (show (61 : Nat) ≠ 70 by decide), hn]
              refine xv_iload_n (q := 93) rfl dX7_rider_92 rfl rfl ?_
              refine xv_iast (q := 94) rfl dX7_rider_93 (hg.1 _ _ rfl) rfl (by omega) (by decide) ?_
              refine xv_aload_n (q := 95) rfl dX7_rider_94 rfl rfl ?_
              refine xv_geta (q := 98) rfl dX7_rider_95 f_X7_29 (hg.1 _ _ rfl) (hg.2 _ _ _ rfl) ?_
              refine xv_aload_n (q := 99) rfl dX7_rider_98 rfl rfl ?_
              refine xv_geti (q := 102) rfl dX7_rider_99 f_X7_88 (hg.1 _ _ rfl) ?_
              simp only [xi_off _ _ _ _ (show (61 : Nat) ≠ 65 by decide), xi_off _ _ _ _ (show (61 : Nat) ≠ 66 by decide), xi_off _ _ _ _ (show (61 : Nat) ≠ 67 by decide), xi_off _ _ _ _ (show (61 : Nat) ≠ 68 by decide), xi_off _ _ _ _ (show (61 : Nat) ≠ 69 by decide), xi_off _ _ _ _ (show (61 : Nat) ≠ 70 by decide), hn]
              refine xv_iload_n (q := 103) rfl dX7_rider_102 rfl rfl ?_
              refine xv_bipush (v := nI 10) (q := 105) rfl dX7_rider_103 rfl ?_
              refine xv_idiv (q := 106) rfl dX7_rider_105 (by decide) ?_
              refine xv_as (w := nI (b / 10)) (pk_div (by omega) (by decide) (by decide)) ?_
              refine xv_iast (q := 107) rfl dX7_rider_106 (hg.1 _ _ rfl) rfl (by omega) (by decide) ?_
              refine xv_aload_n (q := 108) rfl dX7_rider_107 rfl rfl ?_
              refine xv_geta (q := 111) rfl dX7_rider_108 f_X7_32 (hg.1 _ _ rfl) (hg.2 _ _ _ rfl) ?_
              refine xv_aload_n (q := 112) rfl dX7_rider_111 rfl rfl ?_
              refine xv_geti (q := 115) rfl dX7_rider_112 f_X7_88 (hg.1 _ _ rfl) ?_
              simp only [xi_off _ _ _ _ (show (61 : Nat) ≠ 65 by decide), xi_off _ _ _ _ (show (61 : Nat) ≠ 66 by decide), xi_off _ _ _ _ (show (61 : Nat) ≠ 67 by decide), xi_off _ _ _ _ (show (61 : Nat) ≠ 68 by decide), xi_off _ _ _ _ (show (61 : Nat) ≠ 69 by decide), xi_off _ _ _ _ (show (61 : Nat) ≠ 70 by decide), hn]
              refine xv_iload_n (q := 116) rfl dX7_rider_115 rfl rfl ?_
              refine xv_bipush (v := nI 10) (q := 118) rfl dX7_rider_116 rfl ?_
              refine xv_irem (q := 119) rfl dX7_rider_118 (by decide) ?_
              refine xv_as (w := nI (b % 10)) (pk_rem (by omega) (by decide) (by decide)) ?_
              refine xv_iast (q := 120) rfl dX7_rider_119 (hg.1 _ _ rfl) rfl (by omega) (by decide) ?_
              refine xv_aload_n (q := 121) rfl dX7_rider_120 rfl rfl ?_
              refine xv_geta (q := 124) rfl dX7_rider_121 f_X7_35 (hg.1 _ _ rfl) (hg.2 _ _ _ rfl) ?_
              refine xv_aload_n (q := 125) rfl dX7_rider_124 rfl rfl ?_
              refine xv_geti (q := 128) rfl dX7_rider_125 f_X7_88 (hg.1 _ _ rfl) ?_
              simp only [xi_off _ _ _ _ (show (61 : Nat) ≠ 65 by decide), xi_off _ _ _ _ (show (61 : Nat) ≠ 66 by decide), xi_off _ _ _ _ (show (61 : Nat) ≠ 67 by decide), xi_off _ _ _ _ (show (61 : Nat) ≠ 68 by decide), xi_off _ _ _ _ (show (61 : Nat) ≠ 69 by decide), xi_off _ _ _ _ (show (61 : Nat) ≠ 70 by decide), hn]
              refine xv_iload (q := 130) rfl dX7_rider_128 rfl ?_
              refine xv_iast (q := 131) rfl dX7_rider_130 (hg.1 _ _ rfl) rfl (by omega) (by decide) ?_
              refine xv_aload_n (q := 132) rfl dX7_rider_131 rfl rfl ?_
              refine xv_geta (q := 135) rfl dX7_rider_132 f_X7_38 (hg.1 _ _ rfl) (hg.2 _ _ _ rfl) ?_
              refine xv_aload_n (q := 136) rfl dX7_rider_135 rfl rfl ?_
              refine xv_geti (q := 139) rfl dX7_rider_136 f_X7_88 (hg.1 _ _ rfl) ?_
              simp only [xi_off _ _ _ _ (show (61 : Nat) ≠ 65 by decide), xi_off _ _ _ _ (show (61 : Nat) ≠ 66 by decide), xi_off _ _ _ _ (show (61 : Nat) ≠ 67 by decide), xi_off _ _ _ _ (show (61 : Nat) ≠ 68 by decide), xi_off _ _ _ _ (show (61 : Nat) ≠ 69 by decide), xi_off _ _ _ _ (show (61 : Nat) ≠ 70 by decide), hn]
              refine xv_iload (q := 141) rfl dX7_rider_139 rfl ?_
              refine xv_iast (q := 142) rfl dX7_rider_141 (hg.1 _ _ rfl) rfl (by omega) (by decide) ?_
              refine xv_aload_n (q := 143) rfl dX7_rider_142 rfl rfl ?_
              refine xv_geta (q := 146) rfl dX7_rider_143 f_X7_41 (hg.1 _ _ rfl) (hg.2 _ _ _ rfl) ?_
              refine xv_aload_n (q := 147) rfl dX7_rider_146 rfl rfl ?_
              refine xv_geti (q := 150) rfl dX7_rider_147 f_X7_88 (hg.1 _ _ rfl) ?_
              simp only [xi_off _ _ _ _ (show (61 : Nat) ≠ 65 by decide), xi_off _ _ _ _ (show (61 : Nat) ≠ 66 by decide), xi_off _ _ _ _ (show (61 : Nat) ≠ 67 by decide), xi_off _ _ _ _ (show (61 : Nat) ≠ 68 by decide), xi_off _ _ _ _ (show (61 : Nat) ≠ 69 by decide), xi_off _ _ _ _ (show (61 : Nat) ≠ 70 by decide), hn]
              refine xv_iload_n (q := 151) rfl dX7_rider_150 rfl rfl ?_
              refine xv_bipush (v := nI 10) (q := 153) rfl dX7_rider_151 rfl ?_
              refine xv_irem (q := 154) rfl dX7_rider_153 (by decide) ?_
              refine xv_as (w := nI (z % 10)) (pk_rem (by omega) (by decide) (by decide)) ?_
              refine xv_iast (q := 155) rfl dX7_rider_154 (hg.1 _ _ rfl) rfl (by omega) (by decide) ?_
              refine xv_aload_n (q := 156) rfl dX7_rider_155 rfl rfl ?_
              refine xv_geta (q := 159) rfl dX7_rider_156 f_X7_44 (hg.1 _ _ rfl) (hg.2 _ _ _ rfl) ?_
              refine xv_aload_n (q := 160) rfl dX7_rider_159 rfl rfl ?_
              refine xv_geti (q := 163) rfl dX7_rider_160 f_X7_88 (hg.1 _ _ rfl) ?_
              simp only [xi_off _ _ _ _ (show (61 : Nat) ≠ 65 by decide), xi_off _ _ _ _ (show (61 : Nat) ≠ 66 by decide), xi_off _ _ _ _ (show (61 : Nat) ≠ 67 by decide), xi_off _ _ _ _ (show (61 : Nat) ≠ 68 by decide), xi_off _ _ _ _ (show (61 : Nat) ≠ 69 by decide), xi_off _ _ _ _ (show (61 : Nat) ≠ 70 by decide), hn]
              refine xv_bipush (v := nI 100) (q := 165) rfl dX7_rider_163 rfl ?_
              refine xv_iast (q := 166) rfl dX7_rider_165 (hg.1 _ _ rfl) rfl (by omega) (by decide) ?_
              have hm' : XCm (xi (xi (xi (xi (xi (xi (xi I 65 n (nI a)) 66 n (nI (b / 10))) 67 n (nI (b % 10))) 68 n (nI (z / 100))) 69 n (nI (z / 10 % 10))) 70 n (nI (z % 10))) 71 n (nI 100)) 64 (ci (newr c n a b z)) (n + 1) := by
                intro w r hw hr
                rw [ym7 _ _ _ _ _ _ _ _ _ w r hw]
                by_cases e : r = n
                · subst e
                  rw [if_pos rfl]
                  unfold ci newr
                  rw [putr_at]
                  rcases w7 hw with rfl | rfl | rfl | rfl | rfl | rfl | rfl <;> rfl
                · rw [if_neg e, hm w r hw (by omega)]
                  exact (ci_putr w r (by omega)).symm
              have hak : aks (ci (newr c n a b z)) (n + 1) = oks (ci (newr c n a b z)) n n := by
                show (aks (ci (newr c n a b z)) n && oks (ci (newr c n a b z)) n n) = _
                rw [aks_cong (c := ci c) (c' := ci (newr c n a b z)) (fun w o hw ho => ci_putr w o ho), hwf.2, Bool.true_and]
              refine xv_aload_n (q := 167) rfl dX7_rider_166 rfl rfl ?_
              refine xv_aload_n (q := 168) rfl dX7_rider_167 rfl rfl ?_
              refine xv_geti (q := 171) rfl dX7_rider_168 f_X7_88 (hg.1 _ _ rfl) ?_
              rw [show xi (xi (xi (xi (xi (xi (xi I 65 n (nI a)) 66 n (nI (b / 10))) 67 n (nI (b % 10))) 68 n (nI (z / 100))) 69 n (nI (z / 10 % 10))) 70 n (nI (z % 10))) 71 n (nI 100) 61 15 = nI n from (congrFun (ym7o _ _ _ _ _ _ _ _ _ 61 (by omega)) 15).trans hn]
              refine xv_iconst (v := nI 1) (q := 172) rfl dX7_rider_171 rfl ?_
              refine xv_iadd (q := 173) rfl dX7_rider_172 ?_
              refine xv_as (w := nI (n + 1)) (nI_add _ _) ?_
              refine xv_cV1 (z := mX7_areTwo) (q := 176) rfl dX7_rider_173 l_X7_101 gX7_areTwo (hg.1 _ _ rfl) rfl rfl rfl (m_two (d := d) hg hm' (by omega)) (by omega) ?_
              rw [hak]
              refine xv_if_eq (q := 179) (t := 182) rfl rfl dX7_rider_176 (fun h176 => ?_) (fun h176 => ?_)
              · have h176 : oks (ci (newr c n a b z)) n n = true := by have := bIz h176; simpa using this
                refine xv_aload_n (q := 183) rfl dX7_rider_182 rfl rfl ?_
                refine xv_dup (q := 184) rfl dX7_rider_183 rfl ?_
                refine xv_geti (q := 187) rfl dX7_rider_184 f_X7_88 (hg.1 _ _ rfl) ?_
                rw [show xi (xi (xi (xi (xi (xi (xi I 65 n (nI a)) 66 n (nI (b / 10))) 67 n (nI (b % 10))) 68 n (nI (z / 100))) 69 n (nI (z / 10 % 10))) 70 n (nI (z % 10))) 71 n (nI 100) 61 15 = nI n from (congrFun (ym7o _ _ _ _ _ _ _ _ _ 61 (by omega)) 15).trans hn]
                refine xv_iconst (v := nI 1) (q := 188) rfl dX7_rider_187 rfl ?_
                refine xv_iadd (q := 189) rfl dX7_rider_188 ?_
                refine xv_as (w := nI (n + 1)) (nI_add _ _) ?_
                refine xv_puti (q := 192) rfl dX7_rider_189 f_X7_88 (fun h => by cases h) (hg.1 _ _ rfl) ?_
                refine xv_aload_n (q := 193) rfl dX7_rider_192 rfl rfl ?_
                refine xv_geti (q := 196) rfl dX7_rider_193 f_X7_88 (hg.1 _ _ rfl) ?_
                rw [xi_eq]
                refine xv_iconst (v := nI 1) (q := 197) rfl dX7_rider_196 rfl ?_
                refine xv_isub (q := 198) rfl dX7_rider_197 ?_
                refine xv_as (w := nI n) (nI_dec1 n) ?_
                refine xv_iret dX7_rider_198 rfl ?_
                rw [show sp_rider n c (nI a) (nI b) (nI z) = (nI n, n + 1, newr c n a b z) from (if_pos hok).trans ((if_neg (by omega)).trans (by rw [nI_clamp (n := a) (by omega), nI_clamp (n := b) (by omega), nI_clamp (n := z) (by omega)]; exact if_pos h176))]
                dsimp only [QMr]
                refine ⟨rfl, rfl, rfl, rfl, ⟨fun w r hw hr => ?_, xi_eq _ _ _ _, by omega, ?_, hd2, ?_, ?_, ?_⟩, fun k hk hk2 => (xi_off _ _ _ _ hk).trans (ym7o _ _ _ _ _ _ _ _ _ k hk2), fun j zhj => ?_⟩
                · rw [xi_off _ _ _ _ (by omega)]; exact hm' w r hw hr
                · rw [xi_ne _ _ _ _ (by omega), ym7o _ _ _ _ _ _ _ _ _ 61 (by omega)]; exact hdd
                · rw [xi_ne _ _ _ _ (by omega), ym7o _ _ _ _ _ _ _ _ _ 61 (by omega)]; exact hu
                · intro r hr
                  by_cases e : r = n
                  · subst e
                    unfold wfr newr
                    simp only [putr_at, crow]
                    omega
                  · have := hwf.1 r (by omega)
                    unfold wfr newr at *
                    simp only [putr_lt (show r < n by omega)]
                    exact this
                · rw [hak, h176]
                · rw [xi_ne _ _ _ _ (by omega), ym7o _ _ _ _ _ _ _ _ _ 61 (by omega)]
              · have h176 : oks (ci (newr c n a b z)) n n = false := by have := bIn h176; simpa using this
                refine xv_bipush (v := (-3)) (q := 181) rfl dX7_rider_179 rfl ?_
                refine xv_iret dX7_rider_181 rfl ?_
                rw [show sp_rider n c (nI a) (nI b) (nI z) = (-3, n, c) from (if_pos hok).trans ((if_neg (by omega)).trans (if_neg (by rw [nI_clamp (n := a) (by omega), nI_clamp (n := b) (by omega), nI_clamp (n := z) (by omega), h176]; decide)))]
                refine ⟨rfl, rfl, rfl, rfl, ⟨fun w r hw hr => ?_, ?_, hn5, ?_, hd2, ?_, hwf⟩, fun k hk hk2 => ym7o _ _ _ _ _ _ _ _ _ k hk2, fun j zhj => congrFun (ym7o _ _ _ _ _ _ _ _ _ 61 (by omega)) j⟩
                · rw [ym7 _ _ _ _ _ _ _ _ _ w r hw, if_neg (show ¬ r = n from Nat.ne_of_lt hr)]; exact hm w r hw hr
                · rw [ym7o _ _ _ _ _ _ _ _ _ 61 (by omega)]; exact hn
                · rw [ym7o _ _ _ _ _ _ _ _ _ 61 (by omega)]; exact hdd
                · rw [ym7o _ _ _ _ _ _ _ _ _ 61 (by omega)]; exact hu
            · have h78 : n = 5 := nIe h78 (by omega) (by decide)
              refine xv_bipush (v := (-4)) (q := 83) rfl dX7_rider_81 rfl ?_
              refine xv_iret dX7_rider_83 rfl ?_
              rw [show sp_rider n c (nI a) (nI b) (nI z) = (-4, n, c) from (if_pos hok).trans (if_pos (by omega))]
              exact QMr.same hK
          · have h67 := nInlt h67 (by omega) (by omega)
            refine xv_bipush (v := (-2)) (q := 72) rfl dX7_rider_70 rfl ?_
            refine xv_iret dX7_rider_72 rfl ?_
            rw [show sp_rider n c (nI a) (nI b) (nI z) = (-2, n, c) from if_neg (okr_4 zhz (fun q => by have := q.2; omega))]
            exact QMr.same hK
      · have h33 := bIz h33
        refine xv_bipush (v := (-2)) (q := 38) rfl dX7_rider_36 rfl ?_
        refine xv_iret dX7_rider_38 rfl ?_
        rw [show sp_rider n c k w y = (-2, n, c) from if_neg (okr_3 h33)]
        exact QMr.same hK
theorem m_told_w (hg : XG sh R) (hm : XCm I 64 (ci c) n) (hn5 : n ≤ 5) {r w : Nat} (hr : r < n) (hw : w < 7) {Q : XQ} (hQ : Q (some (.int (nI (c (rwo w) r)))) sh I R L) : XV E mX7_told d 0 0 Q 0 0 23 [some (.ref 61), some (.int (nI r)), some (.int (nI w))] [] sh I R L := by
  rcases w7 hw with rfl | rfl | rfl | rfl | rfl | rfl | rfl
  · refine xv_iload_n (q := 24) rfl dX7_told_23 rfl rfl ?_
    refine xv_iconst (v := nI 3) (q := 25) rfl dX7_told_24 rfl ?_
    refine xv_icmp_ge (q := 28) (t := 62) rfl rfl dX7_told_25 (fun h25 => ?_) (fun h25 => ?_)
    · exact absurd h25 (by decide)
    · refine xv_iload_n (q := 29) rfl dX7_told_28 rfl rfl ?_
      refine xv_if_ne (q := 32) (t := 41) rfl rfl dX7_told_29 (fun h29 => ?_) (fun h29 => ?_)
      · exact absurd h29 (by decide)
      · refine xv_aload_n (q := 33) rfl dX7_told_32 rfl rfl ?_
        refine xv_geta (q := 36) rfl dX7_told_33 f_X7_26 (hg.1 _ _ rfl) (hg.2 _ _ _ rfl) ?_
        refine xv_iload_n (q := 37) rfl dX7_told_36 rfl rfl ?_
        refine xv_iald (q := 38) rfl dX7_told_37 (hg.1 _ _ rfl) rfl (by omega) (by decide) ?_
        refine xv_as (w := nI (c 0 r)) (hm 0 r (by decide) hr) ?_
        refine xv_goto (t := 61) rfl dX7_told_38 ?_
        refine xv_iret dX7_told_61 rfl ?_
        exact hQ
  · refine xv_iload_n (q := 24) rfl dX7_told_23 rfl rfl ?_
    refine xv_iconst (v := nI 3) (q := 25) rfl dX7_told_24 rfl ?_
    refine xv_icmp_ge (q := 28) (t := 62) rfl rfl dX7_told_25 (fun h25 => ?_) (fun h25 => ?_)
    · exact absurd h25 (by decide)
    · refine xv_iload_n (q := 29) rfl dX7_told_28 rfl rfl ?_
      refine xv_if_ne (q := 32) (t := 41) rfl rfl dX7_told_29 (fun h29 => ?_) (fun h29 => ?_)
      · refine xv_iload_n (q := 42) rfl dX7_told_41 rfl rfl ?_
        refine xv_iconst (v := nI 1) (q := 43) rfl dX7_told_42 rfl ?_
        refine xv_icmp_ne (q := 46) (t := 55) rfl rfl dX7_told_43 (fun h43 => ?_) (fun h43 => ?_)
        · exact absurd h43 (by decide)
        · refine xv_aload_n (q := 47) rfl dX7_told_46 rfl rfl ?_
          refine xv_geta (q := 50) rfl dX7_told_47 f_X7_29 (hg.1 _ _ rfl) (hg.2 _ _ _ rfl) ?_
          refine xv_iload_n (q := 51) rfl dX7_told_50 rfl rfl ?_
          refine xv_iald (q := 52) rfl dX7_told_51 (hg.1 _ _ rfl) rfl (by omega) (by decide) ?_
          refine xv_as (w := nI (c 1 r)) (hm 1 r (by decide) hr) ?_
          refine xv_goto (t := 61) rfl dX7_told_52 ?_
          refine xv_iret dX7_told_61 rfl ?_
          exact hQ
      · exact absurd h29 (by decide)
  · refine xv_iload_n (q := 24) rfl dX7_told_23 rfl rfl ?_
    refine xv_iconst (v := nI 3) (q := 25) rfl dX7_told_24 rfl ?_
    refine xv_icmp_ge (q := 28) (t := 62) rfl rfl dX7_told_25 (fun h25 => ?_) (fun h25 => ?_)
    · exact absurd h25 (by decide)
    · refine xv_iload_n (q := 29) rfl dX7_told_28 rfl rfl ?_
      refine xv_if_ne (q := 32) (t := 41) rfl rfl dX7_told_29 (fun h29 => ?_) (fun h29 => ?_)
      · refine xv_iload_n (q := 42) rfl dX7_told_41 rfl rfl ?_
        refine xv_iconst (v := nI 1) (q := 43) rfl dX7_told_42 rfl ?_
        refine xv_icmp_ne (q := 46) (t := 55) rfl rfl dX7_told_43 (fun h43 => ?_) (fun h43 => ?_)
        · refine xv_aload_n (q := 56) rfl dX7_told_55 rfl rfl ?_
          refine xv_geta (q := 59) rfl dX7_told_56 f_X7_32 (hg.1 _ _ rfl) (hg.2 _ _ _ rfl) ?_
          refine xv_iload_n (q := 60) rfl dX7_told_59 rfl rfl ?_
          refine xv_iald (q := 61) rfl dX7_told_60 (hg.1 _ _ rfl) rfl (by omega) (by decide) ?_
          refine xv_as (w := nI (c 2 r)) (hm 2 r (by decide) hr) ?_
          refine xv_iret dX7_told_61 rfl ?_
          exact hQ
        · exact absurd h43 (by decide)
      · exact absurd h29 (by decide)
  · refine xv_iload_n (q := 24) rfl dX7_told_23 rfl rfl ?_
    refine xv_iconst (v := nI 3) (q := 25) rfl dX7_told_24 rfl ?_
    refine xv_icmp_ge (q := 28) (t := 62) rfl rfl dX7_told_25 (fun h25 => ?_) (fun h25 => ?_)
    · refine xv_iload_n (q := 63) rfl dX7_told_62 rfl rfl ?_
      refine xv_iconst (v := nI 3) (q := 64) rfl dX7_told_63 rfl ?_
      refine xv_icmp_ne (q := 67) (t := 76) rfl rfl dX7_told_64 (fun h64 => ?_) (fun h64 => ?_)
      · exact absurd h64 (by decide)
      · refine xv_aload_n (q := 68) rfl dX7_told_67 rfl rfl ?_
        refine xv_geta (q := 71) rfl dX7_told_68 f_X7_38 (hg.1 _ _ rfl) (hg.2 _ _ _ rfl) ?_
        refine xv_iload_n (q := 72) rfl dX7_told_71 rfl rfl ?_
        refine xv_iald (q := 73) rfl dX7_told_72 (hg.1 _ _ rfl) rfl (by omega) (by decide) ?_
        refine xv_as (w := nI (c 4 r)) (hm 4 r (by decide) hr) ?_
        refine xv_goto (t := 110) rfl dX7_told_73 ?_
        refine xv_iret dX7_told_110 rfl ?_
        exact hQ
    · exact absurd h25 (by decide)
  · refine xv_iload_n (q := 24) rfl dX7_told_23 rfl rfl ?_
    refine xv_iconst (v := nI 3) (q := 25) rfl dX7_told_24 rfl ?_
    refine xv_icmp_ge (q := 28) (t := 62) rfl rfl dX7_told_25 (fun h25 => ?_) (fun h25 => ?_)
    · refine xv_iload_n (q := 63) rfl dX7_told_62 rfl rfl ?_
      refine xv_iconst (v := nI 3) (q := 64) rfl dX7_told_63 rfl ?_
      refine xv_icmp_ne (q := 67) (t := 76) rfl rfl dX7_told_64 (fun h64 => ?_) (fun h64 => ?_)
      · refine xv_iload_n (q := 77) rfl dX7_told_76 rfl rfl ?_
        refine xv_iconst (v := nI 4) (q := 78) rfl dX7_told_77 rfl ?_
        refine xv_icmp_ne (q := 81) (t := 90) rfl rfl dX7_told_78 (fun h78 => ?_) (fun h78 => ?_)
        · exact absurd h78 (by decide)
        · refine xv_aload_n (q := 82) rfl dX7_told_81 rfl rfl ?_
          refine xv_geta (q := 85) rfl dX7_told_82 f_X7_41 (hg.1 _ _ rfl) (hg.2 _ _ _ rfl) ?_
          refine xv_iload_n (q := 86) rfl dX7_told_85 rfl rfl ?_
          refine xv_iald (q := 87) rfl dX7_told_86 (hg.1 _ _ rfl) rfl (by omega) (by decide) ?_
          refine xv_as (w := nI (c 5 r)) (hm 5 r (by decide) hr) ?_
          refine xv_goto (t := 110) rfl dX7_told_87 ?_
          refine xv_iret dX7_told_110 rfl ?_
          exact hQ
      · exact absurd h64 (by decide)
    · exact absurd h25 (by decide)
  · refine xv_iload_n (q := 24) rfl dX7_told_23 rfl rfl ?_
    refine xv_iconst (v := nI 3) (q := 25) rfl dX7_told_24 rfl ?_
    refine xv_icmp_ge (q := 28) (t := 62) rfl rfl dX7_told_25 (fun h25 => ?_) (fun h25 => ?_)
    · refine xv_iload_n (q := 63) rfl dX7_told_62 rfl rfl ?_
      refine xv_iconst (v := nI 3) (q := 64) rfl dX7_told_63 rfl ?_
      refine xv_icmp_ne (q := 67) (t := 76) rfl rfl dX7_told_64 (fun h64 => ?_) (fun h64 => ?_)
      · refine xv_iload_n (q := 77) rfl dX7_told_76 rfl rfl ?_
        refine xv_iconst (v := nI 4) (q := 78) rfl dX7_told_77 rfl ?_
        refine xv_icmp_ne (q := 81) (t := 90) rfl rfl dX7_told_78 (fun h78 => ?_) (fun h78 => ?_)
        · refine xv_iload_n (q := 91) rfl dX7_told_90 rfl rfl ?_
          refine xv_iconst (v := nI 5) (q := 92) rfl dX7_told_91 rfl ?_
          refine xv_icmp_ne (q := 95) (t := 104) rfl rfl dX7_told_92 (fun h92 => ?_) (fun h92 => ?_)
          · exact absurd h92 (by decide)
          · refine xv_aload_n (q := 96) rfl dX7_told_95 rfl rfl ?_
            refine xv_geta (q := 99) rfl dX7_told_96 f_X7_44 (hg.1 _ _ rfl) (hg.2 _ _ _ rfl) ?_
            refine xv_iload_n (q := 100) rfl dX7_told_99 rfl rfl ?_
            refine xv_iald (q := 101) rfl dX7_told_100 (hg.1 _ _ rfl) rfl (by omega) (by decide) ?_
            refine xv_as (w := nI (c 6 r)) (hm 6 r (by decide) hr) ?_
            refine xv_goto (t := 110) rfl dX7_told_101 ?_
            refine xv_iret dX7_told_110 rfl ?_
            exact hQ
        · exact absurd h78 (by decide)
      · exact absurd h64 (by decide)
    · exact absurd h25 (by decide)
  · refine xv_iload_n (q := 24) rfl dX7_told_23 rfl rfl ?_
    refine xv_iconst (v := nI 3) (q := 25) rfl dX7_told_24 rfl ?_
    refine xv_icmp_ge (q := 28) (t := 62) rfl rfl dX7_told_25 (fun h25 => ?_) (fun h25 => ?_)
    · refine xv_iload_n (q := 63) rfl dX7_told_62 rfl rfl ?_
      refine xv_iconst (v := nI 3) (q := 64) rfl dX7_told_63 rfl ?_
      refine xv_icmp_ne (q := 67) (t := 76) rfl rfl dX7_told_64 (fun h64 => ?_) (fun h64 => ?_)
      · refine xv_iload_n (q := 77) rfl dX7_told_76 rfl rfl ?_
        refine xv_iconst (v := nI 4) (q := 78) rfl dX7_told_77 rfl ?_
        refine xv_icmp_ne (q := 81) (t := 90) rfl rfl dX7_told_78 (fun h78 => ?_) (fun h78 => ?_)
        · refine xv_iload_n (q := 91) rfl dX7_told_90 rfl rfl ?_
          refine xv_iconst (v := nI 5) (q := 92) rfl dX7_told_91 rfl ?_
          refine xv_icmp_ne (q := 95) (t := 104) rfl rfl dX7_told_92 (fun h92 => ?_) (fun h92 => ?_)
          · refine xv_aload_n (q := 105) rfl dX7_told_104 rfl rfl ?_
            refine xv_geta (q := 108) rfl dX7_told_105 f_X7_35 (hg.1 _ _ rfl) (hg.2 _ _ _ rfl) ?_
            refine xv_iload_n (q := 109) rfl dX7_told_108 rfl rfl ?_
            refine xv_iald (q := 110) rfl dX7_told_109 (hg.1 _ _ rfl) rfl (by omega) (by decide) ?_
            refine xv_as (w := nI (c 3 r)) (hm 3 r (by decide) hr) ?_
            refine xv_iret dX7_told_110 rfl ?_
            exact hQ
          · exact absurd h92 (by decide)
        · exact absurd h78 (by decide)
      · exact absurd h64 (by decide)
    · exact absurd h25 (by decide)
theorem y_told (hg : XG sh R) (hK : MKc I n c dd u) (x w : Int32) : XC E mX7_told (d + 2) 0 0 [.ref 61, .int x, .int w] sh I R L (xq (some (.int (sp_told n c x w))) sh I R L) := by
  obtain ⟨hm, hn, hn5, hdd, hd2, hu, hwf⟩ := id hK
  refine XC.of (by decide) rfl rfl ?_
  refine xv_aload_n (q := 1) rfl dX7_told_0 rfl rfl ?_
  refine xv_iload_n (q := 2) rfl dX7_told_1 rfl rfl ?_
  refine xv_cV1 (z := mX7_isRider) (q := 5) rfl dX7_told_2 l_X7_105 gX7_isRider (hg.1 _ _ rfl) rfl rfl rfl (m_isR (d := d) hg hn hn5 x) (by omega) ?_
  refine xv_if_eq (q := 8) (t := 20) rfl rfl dX7_told_5 (fun zh5 => ?_) (fun zh5 => ?_)
  · have zh5 := bIz zh5
    refine xv_bipush (v := (-2)) (q := 22) rfl dX7_told_20 rfl ?_
    refine xv_iret dX7_told_22 rfl ?_
    exact ⟨by rw [show sp_told n c x w = -2 from if_neg (fun q => absurd q.1 (by rw [zh5]; decide))], rfl, rfl, rfl, rfl⟩
  · have zh5 := bIn zh5
    refine xv_iload_n (q := 9) rfl dX7_told_8 rfl rfl ?_
    refine xv_i2l (q := 10) rfl dX7_told_9 ?_
    refine xv_lconst (v := lN 0) (q := 11) rfl dX7_told_10 rfl ?_
    refine xv_ldc2 (q := 14) rfl dX7_told_11 k_X7_122 ?_
    refine xv_cS3 (z := mX7_in) (q := 17) rfl dX7_told_14 l_X7_91 gX7_in rfl (m_in (d := d + 1) _ _ _) (by omega) ?_
    rw [lin_0 (b := 6) rfl (by decide)]
    refine xv_if_ne (q := 20) (t := 23) rfl rfl dX7_told_17 (fun h17 => ?_) (fun h17 => ?_)
    · have h17 := bIn h17
      obtain ⟨r, hr, rfl⟩ := isR_of hn5 zh5
      obtain ⟨w, hw, rfl⟩ := isR_nI (by decide) h17
      refine m_told_w hg hm hn5 hr hw ⟨?_, rfl, rfl, rfl, rfl⟩
      rw [show sp_told n c (nI r) (nI w) = _ from if_pos ⟨zh5, nI_pos (by omega), nI_le (by omega) (by decide)⟩, nI_clamp (n := w) (by omega), nI_clamp (n := r) (by omega)]
    · have h17 := bIz h17
      refine xv_bipush (v := (-2)) (q := 22) rfl dX7_told_20 rfl ?_
      refine xv_iret dX7_told_22 rfl ?_
      exact ⟨by rw [show sp_told n c x w = -2 from if_neg (fun q => isR_f h17 ⟨q.2.1, fun z => absurd (Int32.le_trans z q.2.2) (by decide)⟩)], rfl, rfl, rfl, rfl⟩
theorem y_lets (hg : XG sh R) (hK : MKc I n c dd u) (x z : Int32) : XC E mX7_lets (d + 2) 0 0 [.ref 61, .int x, .int z] sh I R L (xq (some (.int (sp_lets n c x z))) sh I R L) := by
  obtain ⟨hm, hn, hn5, hdd, hd2, hu, hwf⟩ := id hK
  refine XC.of (by decide) rfl rfl ?_
  refine xv_aload_n (q := 1) rfl dX7_lets_0 rfl rfl ?_
  refine xv_iload_n (q := 2) rfl dX7_lets_1 rfl rfl ?_
  refine xv_cV1 (z := mX7_isRider) (q := 5) rfl dX7_lets_2 l_X7_105 gX7_isRider (hg.1 _ _ rfl) rfl rfl rfl (m_isR (d := d) hg hn hn5 x) (by omega) ?_
  refine xv_if_eq (q := 8) (t := 21) rfl rfl dX7_lets_5 (fun zh5 => ?_) (fun zh5 => ?_)
  · have zh5 := bIz zh5
    refine xv_bipush (v := (-2)) (q := 23) rfl dX7_lets_21 rfl ?_
    refine xv_iret dX7_lets_23 rfl ?_
    exact ⟨by rw [show sp_lets n c x z = -2 from if_neg (fun q => absurd q.1 (by rw [zh5]; decide))], rfl, rfl, rfl, rfl⟩
  · have zh5 := bIn zh5
    refine xv_aload_n (q := 9) rfl dX7_lets_8 rfl rfl ?_
    refine xv_iload_n (q := 10) rfl dX7_lets_9 rfl rfl ?_
    refine xv_cV1 (z := mX7_isRider) (q := 13) rfl dX7_lets_10 l_X7_105 gX7_isRider (hg.1 _ _ rfl) rfl rfl rfl (m_isR (d := d) hg hn hn5 z) (by omega) ?_
    refine xv_if_eq (q := 16) (t := 21) rfl rfl dX7_lets_13 (fun h13 => ?_) (fun h13 => ?_)
    · have h13 := bIz h13
      refine xv_bipush (v := (-2)) (q := 23) rfl dX7_lets_21 rfl ?_
      refine xv_iret dX7_lets_23 rfl ?_
      exact ⟨by rw [show sp_lets n c x z = -2 from if_neg (fun q => absurd q.2.1 (by rw [h13]; decide))], rfl, rfl, rfl, rfl⟩
    · have h13 := bIn h13
      refine xv_iload_n (q := 17) rfl dX7_lets_16 rfl rfl ?_
      refine xv_iload_n (q := 18) rfl dX7_lets_17 rfl rfl ?_
      refine xv_icmp_ne (q := 21) (t := 24) rfl rfl dX7_lets_18 (fun h18 => ?_) (fun h18 => ?_)
      · obtain ⟨r, hr, rfl⟩ := isR_of hn5 zh5
        obtain ⟨s, zhs, rfl⟩ := isR_of hn5 h13
        have zhq : sp_lets n c (nI r) (nI s) = bI (lts (ci c) r (nI (c 2 s))) := (if_pos ⟨zh5, h13, h18⟩).trans (by rw [nI_clamp (n := r) (by omega), nI_clamp (n := s) (by omega)])
        refine xv_aload_n (q := 25) rfl dX7_lets_24 rfl rfl ?_
        refine xv_iload_n (q := 26) rfl dX7_lets_25 rfl rfl ?_
        refine xv_iload_n (q := 27) rfl dX7_lets_26 rfl rfl ?_
        refine xv_cV2 (z := mX7_doesLet) (q := 30) rfl dX7_lets_27 l_X7_124 gX7_doesLet (hg.1 _ _ rfl) rfl rfl rfl (m_lets (d := d + 1) hg hm hn5 hwf.1 hr zhs) (by omega) ?_
        refine xv_if_eq (q := 33) (t := 37) rfl rfl dX7_lets_30 (fun h30 => ?_) (fun h30 => ?_)
        · have h30 := bIz h30
          refine xv_iconst (v := nI 0) (q := 38) rfl dX7_lets_37 rfl ?_
          refine xv_iret dX7_lets_38 rfl ?_
          exact ⟨by rw [zhq, h30]; rfl, rfl, rfl, rfl, rfl⟩
        · have h30 := bIn h30
          refine xv_iconst (v := nI 1) (q := 34) rfl dX7_lets_33 rfl ?_
          refine xv_goto (t := 38) rfl dX7_lets_34 ?_
          refine xv_iret dX7_lets_38 rfl ?_
          exact ⟨by rw [zhq, h30]; rfl, rfl, rfl, rfl, rfl⟩
      · refine xv_bipush (v := (-2)) (q := 23) rfl dX7_lets_21 rfl ?_
        refine xv_iret dX7_lets_23 rfl ?_
        exact ⟨by rw [show sp_lets n c x z = -2 from if_neg (fun q => q.2.2 h18)], rfl, rfl, rfl, rfl⟩
theorem lin_tc {tc : Nat} (h : tc ≤ 6) (x : Int32) : lin x.toInt64 (lN 0) (nI tc - nI 1).toInt64 = isR tc x := by
  have ze1 : (nI tc - nI 1).toInt64.toInt = (tc : Int) - 1 := by
    rw [Int32.toInt_toInt64, pk_sub_toInt (by omega) (by decide)]; rfl
  have ze0 : (lN 0).toInt = 0 := rfl
  have hl := lin_iff (x := x) (a := lN 0) (b := (nI tc - nI 1).toInt64)
  rw [ze1, ze0] at hl
  unfold isR
  rw [Bool.eq_iff_iff, decide_eq_true_iff, hl, Int32.lt_iff_toInt_lt, Int32.le_iff_toInt_le, nI_toInt (by omega)]
  simp only [Int32.toInt_zero]
  omega
def QMu (q : Int32 × Nat) (n : Nat) (c : CR) (dd : Nat) (sh : XSh) (I : XI) (R : XRf) (L : XL) : XQ := fun v sh' J R' L' => v = some (.int q.1) ∧ sh' = sh ∧ R' = R ∧ L' = L ∧ MKc J n c dd q.2 ∧ FMr I J 4
theorem y_force (hg : XG sh R) (hK : MKc I n c dd u) {tc : Nat} (htc : I 61 3 = nI tc) (ht6 : tc ≤ 6) (t : Int32) : XC E mX7_force (d + 1) 0 0 [.ref 61, .int t] sh I R L (QMu (sp_force tc u t) n c dd sh I R L) := by
  obtain ⟨hm, hn, hn5, hdd, hd2, hu, hwf⟩ := id hK
  refine XC.of (by decide) rfl rfl ?_
  refine xv_iload_n (q := 1) rfl dX7_force_0 rfl rfl ?_
  refine xv_i2l (q := 2) rfl dX7_force_1 ?_
  refine xv_lconst (v := lN 0) (q := 3) rfl dX7_force_2 rfl ?_
  refine xv_aload_n (q := 4) rfl dX7_force_3 rfl rfl ?_
  refine xv_geti (q := 7) rfl dX7_force_4 f_X7_85 (hg.1 _ _ rfl) ?_
  rw [htc]
  refine xv_iconst (v := nI 1) (q := 8) rfl dX7_force_7 rfl ?_
  refine xv_isub (q := 9) rfl dX7_force_8 ?_
  refine xv_i2l (q := 10) rfl dX7_force_9 ?_
  refine xv_cS3 (z := mX7_in) (q := 13) rfl dX7_force_10 l_X7_91 gX7_in rfl (m_in (d := d) _ _ _) (by omega) ?_
  rw [lin_tc ht6]
  refine xv_if_ne (q := 16) (t := 19) rfl rfl dX7_force_13 (fun h13 => ?_) (fun h13 => ?_)
  · have h13 := bIn h13
    obtain ⟨t, ht, rfl⟩ := isR_nI (by omega) h13
    rw [show sp_force tc u (nI t) = (nI u, t) from (if_neg (fun q => q.elim (nI_pos (by omega)) (fun q => q (nI_lt ht (by omega))))).trans (by rw [nI_clamp (n := t) (by omega)])]
    refine xv_aload_n (q := 20) rfl dX7_force_19 rfl rfl ?_
    refine xv_geti (q := 23) rfl dX7_force_20 f_X7_247 (hg.1 _ _ rfl) ?_
    rw [hu]
    refine xv_istore_n (q := 24) rfl dX7_force_23 rfl rfl ?_
    refine xv_aload_n (q := 25) rfl dX7_force_24 rfl rfl ?_
    refine xv_iload_n (q := 26) rfl dX7_force_25 rfl rfl ?_
    refine xv_puti (q := 29) rfl dX7_force_26 f_X7_247 (fun h => by cases h) (hg.1 _ _ rfl) ?_
    refine xv_iload_n (q := 30) rfl dX7_force_29 rfl rfl ?_
    refine xv_iret dX7_force_30 rfl ?_
    refine ⟨rfl, rfl, rfl, rfl, ⟨fun w r hw hr => ?_, ?_, hn5, ?_, hd2, xi_eq _ _ _ _, hwf⟩, fun k hk _ => xi_off _ _ _ _ hk, fun j zhj => xi_ne _ _ _ _ (by omega)⟩
    · rw [xi_off _ _ _ _ (by omega)]; exact hm w r hw hr
    · rw [xi_ne _ _ _ _ (by omega)]; exact hn
    · rw [xi_ne _ _ _ _ (by omega)]; exact hdd
  · have h13 := bIz h13
    refine xv_bipush (v := (-2)) (q := 18) rfl dX7_force_16 rfl ?_
    refine xv_iret dX7_force_18 rfl ?_
    rw [show sp_force tc u t = (-2, u) from if_pos (by
      by_cases zh1 : t < 0
      · exact Or.inl zh1
      · refine Or.inr (fun zh2 => isR_f h13 ⟨zh1, fun zh3 => Int32.lt_irrefl (Int32.lt_of_lt_of_le zh2 zh3)⟩))]
    exact ⟨rfl, rfl, rfl, rfl, hK, FMr.rf⟩
theorem y_count (hg : XG sh R) (hK : MKc I n c dd u) {tc tl : Nat} (htc : I 61 3 = nI tc) (htl : I 61 6 = nI tl) (w : Int32) : XC E mX7_count (d + 1) 0 0 [.ref 61, .int w] sh I R L (xq (some (.int (sp_count n dd tc tl u w))) sh I R L) := by
  obtain ⟨hm, hn, hn5, hdd, hd2, hu, hwf⟩ := id hK
  refine XC.of (by decide) rfl rfl ?_
  refine xv_iload_n (q := 1) rfl dX7_count_0 rfl rfl ?_
  refine xv_i2l (q := 2) rfl dX7_count_1 ?_
  refine xv_lconst (v := lN 0) (q := 3) rfl dX7_count_2 rfl ?_
  refine xv_ldc2 (q := 6) rfl dX7_count_3 k_X7_356 ?_
  refine xv_cS3 (z := mX7_in) (q := 9) rfl dX7_count_6 l_X7_91 gX7_in rfl (m_in (d := d) _ _ _) (by omega) ?_
  rw [lin_0 (b := 4) rfl (by decide)]
  refine xv_if_ne (q := 12) (t := 15) rfl rfl dX7_count_9 (fun zh9 => ?_) (fun zh9 => ?_)
  · have zh9 := bIn zh9
    refine xv_iload_n (q := 16) rfl dX7_count_15 rfl rfl ?_
    refine xv_if_ne (q := 19) (t := 26) rfl rfl dX7_count_16 (fun h16 => ?_) (fun h16 => ?_)
    · refine xv_iload_n (q := 27) rfl dX7_count_26 rfl rfl ?_
      refine xv_iconst (v := nI 1) (q := 28) rfl dX7_count_27 rfl ?_
      refine xv_icmp_ne (q := 31) (t := 38) rfl rfl dX7_count_28 (fun h28 => ?_) (fun h28 => ?_)
      · refine xv_iload_n (q := 39) rfl dX7_count_38 rfl rfl ?_
        refine xv_iconst (v := nI 2) (q := 40) rfl dX7_count_39 rfl ?_
        refine xv_icmp_ne (q := 43) (t := 50) rfl rfl dX7_count_40 (fun h40 => ?_) (fun h40 => ?_)
        · refine xv_iload_n (q := 51) rfl dX7_count_50 rfl rfl ?_
          refine xv_iconst (v := nI 3) (q := 52) rfl dX7_count_51 rfl ?_
          refine xv_icmp_ne (q := 55) (t := 62) rfl rfl dX7_count_52 (fun h52 => ?_) (fun h52 => ?_)
          · refine xv_aload_n (q := 63) rfl dX7_count_62 rfl rfl ?_
            refine xv_geti (q := 66) rfl dX7_count_63 f_X7_247 (hg.1 _ _ rfl) ?_
            rw [hu]
            refine xv_iret dX7_count_66 rfl ?_
            have zh4 : w = nI 4 := by
              obtain ⟨k, hk, rfl⟩ := isR_nI (by decide) zh9
              have ze0 : ¬ k = 0 := fun q => h16 (by rw [q]; rfl)
              have ze1 : ¬ k = 1 := fun q => h28 (by rw [q])
              have ze2 : ¬ k = 2 := fun q => h40 (by rw [q])
              have ze3 : ¬ k = 3 := fun q => h52 (by rw [q])
              rw [show k = 4 by omega]
            exact ⟨by unfold sp_count; rw [if_neg (show ¬ w = nI 0 from h16), if_neg h28, if_neg h40, if_neg h52, if_pos zh4], rfl, rfl, rfl, rfl⟩
          · refine xv_aload_n (q := 56) rfl dX7_count_55 rfl rfl ?_
            refine xv_geti (q := 59) rfl dX7_count_56 f_X7_130 (hg.1 _ _ rfl) ?_
            rw [htl]
            refine xv_goto (t := 66) rfl dX7_count_59 ?_
            refine xv_iret dX7_count_66 rfl ?_
            exact ⟨by unfold sp_count; rw [if_neg (show ¬ w = nI 0 from h16), if_neg h28, if_neg h40, if_pos h52], rfl, rfl, rfl, rfl⟩
        · refine xv_aload_n (q := 44) rfl dX7_count_43 rfl rfl ?_
          refine xv_geti (q := 47) rfl dX7_count_44 f_X7_85 (hg.1 _ _ rfl) ?_
          rw [htc]
          refine xv_goto (t := 66) rfl dX7_count_47 ?_
          refine xv_iret dX7_count_66 rfl ?_
          exact ⟨by unfold sp_count; rw [if_neg (show ¬ w = nI 0 from h16), if_neg h28, if_pos h40], rfl, rfl, rfl, rfl⟩
      · refine xv_aload_n (q := 32) rfl dX7_count_31 rfl rfl ?_
        refine xv_geti (q := 35) rfl dX7_count_32 f_X7_23 (hg.1 _ _ rfl) ?_
        rw [hdd]
        refine xv_goto (t := 66) rfl dX7_count_35 ?_
        refine xv_iret dX7_count_66 rfl ?_
        exact ⟨by unfold sp_count; rw [if_neg (show ¬ w = nI 0 from h16), if_pos h28], rfl, rfl, rfl, rfl⟩
    · refine xv_aload_n (q := 20) rfl dX7_count_19 rfl rfl ?_
      refine xv_geti (q := 23) rfl dX7_count_20 f_X7_88 (hg.1 _ _ rfl) ?_
      rw [hn]
      refine xv_goto (t := 66) rfl dX7_count_23 ?_
      refine xv_iret dX7_count_66 rfl ?_
      exact ⟨by unfold sp_count; rw [if_pos (show w = nI 0 from h16)], rfl, rfl, rfl, rfl⟩
  · have zh9 := bIz zh9
    refine xv_bipush (v := (-2)) (q := 14) rfl dX7_count_12 rfl ?_
    refine xv_iret dX7_count_14 rfl ?_
    have hne : ∀ k, k < 5 → ¬ w = nI k := fun k hk q => by rw [q, isR_t hk (by decide)] at zh9; cases zh9
    exact ⟨by unfold sp_count; rw [if_neg (hne 0 (by decide)), if_neg (hne 1 (by decide)), if_neg (hne 2 (by decide)), if_neg (hne 3 (by decide)), if_neg (hne 4 (by decide))], rfl, rfl, rfl, rfl⟩
def ovr (k : Nat) : Int32 := if k = 0 then -1 else if k = 3 ∨ k = 5 then nI 1 else if k = 4 then nI 2 else nI 0
theorem m_over {k : Nat} (hk : k < 6) : XC E mX7_over d 0 0 [.int (nI k)] sh I R L (xq (some (.int (ovr k))) sh I R L) := by
  refine XC.of (by decide) rfl rfl ?_
  rcases k6 hk with rfl | rfl | rfl | rfl | rfl | rfl
  · refine xv_iload_n (q := 1) rfl dX7_over_0 rfl rfl ?_
    refine xv_if_ne (q := 4) (t := 8) rfl rfl dX7_over_1 (fun zh1 => ?_) (fun zh1 => ?_)
    · exact absurd zh1 (by decide)
    · refine xv_iconst (v := (-1)) (q := 5) rfl dX7_over_4 rfl ?_
      refine xv_goto (t := 32) rfl dX7_over_5 ?_
      refine xv_iret dX7_over_32 rfl ?_
      exact xq_rfl
  · refine xv_iload_n (q := 1) rfl dX7_over_0 rfl rfl ?_
    refine xv_if_ne (q := 4) (t := 8) rfl rfl dX7_over_1 (fun zh1 => ?_) (fun zh1 => ?_)
    · refine xv_iload_n (q := 9) rfl dX7_over_8 rfl rfl ?_
      refine xv_iconst (v := nI 3) (q := 10) rfl dX7_over_9 rfl ?_
      refine xv_icmp_eq (q := 13) (t := 18) rfl rfl dX7_over_10 (fun h10 => ?_) (fun h10 => ?_)
      · exact absurd h10 (by decide)
      · refine xv_iload_n (q := 14) rfl dX7_over_13 rfl rfl ?_
        refine xv_iconst (v := nI 5) (q := 15) rfl dX7_over_14 rfl ?_
        refine xv_icmp_ne (q := 18) (t := 22) rfl rfl dX7_over_15 (fun h15 => ?_) (fun h15 => ?_)
        · refine xv_iload_n (q := 23) rfl dX7_over_22 rfl rfl ?_
          refine xv_iconst (v := nI 4) (q := 24) rfl dX7_over_23 rfl ?_
          refine xv_icmp_ne (q := 27) (t := 31) rfl rfl dX7_over_24 (fun h24 => ?_) (fun h24 => ?_)
          · refine xv_iconst (v := nI 0) (q := 32) rfl dX7_over_31 rfl ?_
            refine xv_iret dX7_over_32 rfl ?_
            exact xq_rfl
          · exact absurd h24 (by decide)
        · exact absurd h15 (by decide)
    · exact absurd zh1 (by decide)
  · refine xv_iload_n (q := 1) rfl dX7_over_0 rfl rfl ?_
    refine xv_if_ne (q := 4) (t := 8) rfl rfl dX7_over_1 (fun zh1 => ?_) (fun zh1 => ?_)
    · refine xv_iload_n (q := 9) rfl dX7_over_8 rfl rfl ?_
      refine xv_iconst (v := nI 3) (q := 10) rfl dX7_over_9 rfl ?_
      refine xv_icmp_eq (q := 13) (t := 18) rfl rfl dX7_over_10 (fun h10 => ?_) (fun h10 => ?_)
      · exact absurd h10 (by decide)
      · refine xv_iload_n (q := 14) rfl dX7_over_13 rfl rfl ?_
        refine xv_iconst (v := nI 5) (q := 15) rfl dX7_over_14 rfl ?_
        refine xv_icmp_ne (q := 18) (t := 22) rfl rfl dX7_over_15 (fun h15 => ?_) (fun h15 => ?_)
        · refine xv_iload_n (q := 23) rfl dX7_over_22 rfl rfl ?_
          refine xv_iconst (v := nI 4) (q := 24) rfl dX7_over_23 rfl ?_
          refine xv_icmp_ne (q := 27) (t := 31) rfl rfl dX7_over_24 (fun h24 => ?_) (fun h24 => ?_)
          · refine xv_iconst (v := nI 0) (q := 32) rfl dX7_over_31 rfl ?_
            refine xv_iret dX7_over_32 rfl ?_
            exact xq_rfl
          · exact absurd h24 (by decide)
        · exact absurd h15 (by decide)
    · exact absurd zh1 (by decide)
  · refine xv_iload_n (q := 1) rfl dX7_over_0 rfl rfl ?_
    refine xv_if_ne (q := 4) (t := 8) rfl rfl dX7_over_1 (fun zh1 => ?_) (fun zh1 => ?_)
    · refine xv_iload_n (q := 9) rfl dX7_over_8 rfl rfl ?_
      refine xv_iconst (v := nI 3) (q := 10) rfl dX7_over_9 rfl ?_
      refine xv_icmp_eq (q := 13) (t := 18) rfl rfl dX7_over_10 (fun h10 => ?_) (fun h10 => ?_)
      · refine xv_iconst (v := nI 1) (q := 19) rfl dX7_over_18 rfl ?_
        refine xv_goto (t := 32) rfl dX7_over_19 ?_
        refine xv_iret dX7_over_32 rfl ?_
        exact xq_rfl
      · exact absurd h10 (by decide)
    · exact absurd zh1 (by decide)
  · refine xv_iload_n (q := 1) rfl dX7_over_0 rfl rfl ?_
    refine xv_if_ne (q := 4) (t := 8) rfl rfl dX7_over_1 (fun zh1 => ?_) (fun zh1 => ?_)
    · refine xv_iload_n (q := 9) rfl dX7_over_8 rfl rfl ?_
      refine xv_iconst (v := nI 3) (q := 10) rfl dX7_over_9 rfl ?_
      refine xv_icmp_eq (q := 13) (t := 18) rfl rfl dX7_over_10 (fun h10 => ?_) (fun h10 => ?_)
      · exact absurd h10 (by decide)
      · refine xv_iload_n (q := 14) rfl dX7_over_13 rfl rfl ?_
        refine xv_iconst (v := nI 5) (q := 15) rfl dX7_over_14 rfl ?_
        refine xv_icmp_ne (q := 18) (t := 22) rfl rfl dX7_over_15 (fun h15 => ?_) (fun h15 => ?_)
        · refine xv_iload_n (q := 23) rfl dX7_over_22 rfl rfl ?_
          refine xv_iconst (v := nI 4) (q := 24) rfl dX7_over_23 rfl ?_
          refine xv_icmp_ne (q := 27) (t := 31) rfl rfl dX7_over_24 (fun h24 => ?_) (fun h24 => ?_)
          · exact absurd h24 (by decide)
          · refine xv_iconst (v := nI 2) (q := 28) rfl dX7_over_27 rfl ?_
            refine xv_goto (t := 32) rfl dX7_over_28 ?_
            refine xv_iret dX7_over_32 rfl ?_
            exact xq_rfl
        · exact absurd h15 (by decide)
    · exact absurd zh1 (by decide)
  · refine xv_iload_n (q := 1) rfl dX7_over_0 rfl rfl ?_
    refine xv_if_ne (q := 4) (t := 8) rfl rfl dX7_over_1 (fun zh1 => ?_) (fun zh1 => ?_)
    · refine xv_iload_n (q := 9) rfl dX7_over_8 rfl rfl ?_
      refine xv_iconst (v := nI 3) (q := 10) rfl dX7_over_9 rfl ?_
      refine xv_icmp_eq (q := 13) (t := 18) rfl rfl dX7_over_10 (fun h10 => ?_) (fun h10 => ?_)
      · exact absurd h10 (by decide)
      · refine xv_iload_n (q := 14) rfl dX7_over_13 rfl rfl ?_
        refine xv_iconst (v := nI 5) (q := 15) rfl dX7_over_14 rfl ?_
        refine xv_icmp_ne (q := 18) (t := 22) rfl rfl dX7_over_15 (fun h15 => ?_) (fun h15 => ?_)
        · exact absurd h15 (by decide)
        · refine xv_iconst (v := nI 1) (q := 19) rfl dX7_over_18 rfl ?_
          refine xv_goto (t := 32) rfl dX7_over_19 ?_
          refine xv_iret dX7_over_32 rfl ?_
          exact xq_rfl
    · exact absurd zh1 (by decide)
theorem und_tk : ∀ a, a < 6 → ∀ k, k < 6 → undF 6 (nI a) (nI k) = (decide (a = k) || (decide (ovr a = nI k) || (decide (¬ ovr a = -1) && decide (ovr (ovr a).toNatClampNeg = nI k)))) := by decide +kernel
theorem und_m1 : ∀ a, a < 6 → ovr a = -1 ∨ ∃ b, b < 6 ∧ ovr a = nI b ∧ (ovr b = -1 ∨ (ovr b = nI 0)) := by decide +kernel
/-- the chain of those over a -/
def chn (a k : Nat) : Nat → Int32 → Int32
  | 0, x => x
  | m + 1, x => if x = -1 ∨ x = nI k then x else chn a k m (ovr x.toNatClampNeg)
theorem chn_u : ∀ a, a < 6 → ∀ k, k < 6 → (chn a k 4 (nI a) = nI k ↔ undF 6 (nI a) (nI k) = true) := by decide +kernel
theorem chn_ok : ∀ a, a < 6 → ∀ k, k < 6 → chn a k 4 (nI a) = -1 ∨ chn a k 4 (nI a) = nI k := by decide +kernel
theorem chn_s {a k m : Nat} {x : Int32} (h : x = -1 ∨ x = nI k) : chn a k m x = x := by
  cases m with
  | zero => rfl
  | succ m => exact if_pos h
theorem ovr_6 : ∀ a, a < 6 → ovr a = -1 ∨ ∃ b, b < 6 ∧ ovr a = nI b := by decide +kernel
theorem m_tkn_loop (hg : XG sh R) {r k a : Nat} (hk : k < 6) {Q : XQ} {x1 : Int32} (hfin : x1 = -1 ∨ x1 = nI k) (KK : XV E mX7_taken (d + 2) 0 0 Q 0 0 51 [some (.ref 61), some (.int (nI r)), some (.int (nI k)), some (.int x1)] [] sh I R L) :
    ∀ (m : Nat) (x : Int32), (x = -1 ∨ ∃ b, b < 6 ∧ x = nI b) → chn a k m x = x1 → XV E mX7_taken (d + 2) 0 0 Q 0 0 33 [some (.ref 61), some (.int (nI r)), some (.int (nI k)), some (.int x)] [] sh I R L := by
  intro m
  induction m with
  | zero =>
    intro x zhx hc
    obtain rfl : x = x1 := hc
    refine xv_iload_n (q := 34) rfl dX7_taken_33 rfl rfl ?_
    refine xv_iconst (v := (-1)) (q := 35) rfl dX7_taken_34 rfl ?_
    refine xv_icmp_eq (q := 38) (t := 51) rfl rfl dX7_taken_35 (fun h35 => ?_) (fun h35 => ?_)
    · exact KK
    · refine xv_iload_n (q := 39) rfl dX7_taken_38 rfl rfl ?_
      refine xv_iload_n (q := 40) rfl dX7_taken_39 rfl rfl ?_
      refine xv_icmp_eq (q := 43) (t := 51) rfl rfl dX7_taken_40 (fun h40 => ?_) (fun h40 => ?_)
      · exact KK
      · exact absurd hfin (fun q => q.elim h35 h40)
  | succ m ih =>
    intro x zhx hc
    refine xv_iload_n (q := 34) rfl dX7_taken_33 rfl rfl ?_
    refine xv_iconst (v := (-1)) (q := 35) rfl dX7_taken_34 rfl ?_
    refine xv_icmp_eq (q := 38) (t := 51) rfl rfl dX7_taken_35 (fun h35 => ?_) (fun h35 => ?_)
    · have e : x = x1 := (chn_s (Or.inl h35)).symm.trans hc
      rw [e]
      exact KK
    · refine xv_iload_n (q := 39) rfl dX7_taken_38 rfl rfl ?_
      refine xv_iload_n (q := 40) rfl dX7_taken_39 rfl rfl ?_
      refine xv_icmp_eq (q := 43) (t := 51) rfl rfl dX7_taken_40 (fun h40 => ?_) (fun h40 => ?_)
      · have e : x = x1 := (chn_s (Or.inr h40)).symm.trans hc
        rw [e]
        exact KK
      · obtain ⟨b, zhb, rfl⟩ := zhx.resolve_left h35
        refine xv_iload_n (q := 44) rfl dX7_taken_43 rfl rfl ?_
        refine xv_cS1 (z := mX7_over) (q := 47) rfl dX7_taken_44 l_X7_365 gX7_over rfl (m_over (d := d + 1) zhb) (by omega) ?_
        refine xv_istore_n (q := 48) rfl dX7_taken_47 rfl rfl ?_
        refine xv_goto (t := 33) rfl dX7_taken_48 ?_
        refine ih (ovr b) (ovr_6 b zhb) ?_
        rw [← hc]
        show _ = (if _ then _ else _)
        rw [if_neg (fun q => q.elim h35 h40), nI_clamp (n := b) (by omega)]
theorem y_taken (hg : XG sh R) (hK : MKc I n c dd u) (x k : Int32) : XC E mX7_taken (d + 2) 0 0 [.ref 61, .int x, .int k] sh I R L (xq (some (.int (sp_taken n c x k))) sh I R L) := by
  obtain ⟨hm, hn, hn5, hdd, hd2, hu, hwf⟩ := id hK
  refine XC.of (by decide) rfl rfl ?_
  refine xv_iload_n (q := 1) rfl dX7_taken_0 rfl rfl ?_
  refine xv_i2l (q := 2) rfl dX7_taken_1 ?_
  refine xv_lconst (v := lN 0) (q := 3) rfl dX7_taken_2 rfl ?_
  refine xv_ldc2 (q := 6) rfl dX7_taken_3 k_X7_95 ?_
  refine xv_cS3 (z := mX7_in) (q := 9) rfl dX7_taken_6 l_X7_91 gX7_in rfl (m_in (d := d + 1) _ _ _) (by omega) ?_
  rw [lin_0 (b := 5) rfl (by decide)]
  refine xv_if_ne (q := 12) (t := 15) rfl rfl dX7_taken_9 (fun zh9 => ?_) (fun zh9 => ?_)
  · have zh9 := bIn zh9
    obtain ⟨k, hk, rfl⟩ := isR_nI (by decide) zh9
    have hq0 : ¬ (nI k < 0 ∨ ¬ nI k < nI 6) := fun q => q.elim (nI_pos (by omega)) (fun q => q (nI_lt hk (by decide)))
    refine xv_aload_n (q := 16) rfl dX7_taken_15 rfl rfl ?_
    refine xv_iload_n (q := 17) rfl dX7_taken_16 rfl rfl ?_
    refine xv_cV1 (z := mX7_isRider) (q := 20) rfl dX7_taken_17 l_X7_105 gX7_isRider (hg.1 _ _ rfl) rfl rfl rfl (m_isR (d := d) hg hn hn5 x) (by omega) ?_
    refine xv_if_ne (q := 23) (t := 26) rfl rfl dX7_taken_20 (fun h20 => ?_) (fun h20 => ?_)
    · have h20 := bIn h20
      obtain ⟨r, hr, rfl⟩ := isR_of hn5 h20
      have zh0 : c 0 r < 6 := (hwf.1 r hr).1
      have hq1 : sp_taken n c (nI r) (nI k) = if undF 6 (nI (c 0 r)) (nI k) = true then nI (c 1 r) else -13 := (if_neg hq0).trans ((if_neg (by rw [h20]; decide)).trans (by rw [nI_clamp (n := r) (by omega)]))
      rw [hq1]
      refine xv_aload_n (q := 27) rfl dX7_taken_26 rfl rfl ?_
      refine xv_geta (q := 30) rfl dX7_taken_27 f_X7_26 (hg.1 _ _ rfl) (hg.2 _ _ _ rfl) ?_
      refine xv_iload_n (q := 31) rfl dX7_taken_30 rfl rfl ?_
      refine xv_iald (q := 32) rfl dX7_taken_31 (hg.1 _ _ rfl) rfl (by omega) (by decide) ?_
      refine xv_as (w := nI (c 0 r)) (hm 0 r (by decide) hr) ?_
      refine xv_istore_n (q := 33) rfl dX7_taken_32 rfl rfl ?_
      refine m_tkn_loop (a := c 0 r) hg hk (chn_ok _ zh0 k hk) ?_ 4 _ (Or.inr ⟨_, zh0, rfl⟩) rfl
      refine xv_iload_n (q := 52) rfl dX7_taken_51 rfl rfl ?_
      refine xv_iload_n (q := 53) rfl dX7_taken_52 rfl rfl ?_
      refine xv_icmp_ne (q := 56) (t := 65) rfl rfl dX7_taken_53 (fun h53 => ?_) (fun h53 => ?_)
      · have h53 : ¬ undF 6 (nI (c 0 r)) (nI k) = true := fun q => h53 ((chn_u _ zh0 k hk).mpr q)
        refine xv_bipush (v := (-13)) (q := 67) rfl dX7_taken_65 rfl ?_
        refine xv_iret dX7_taken_67 rfl ?_
        rw [if_neg h53]
        exact xq_rfl
      · have h53 : undF 6 (nI (c 0 r)) (nI k) = true := (chn_u _ zh0 k hk).mp h53
        refine xv_aload_n (q := 57) rfl dX7_taken_56 rfl rfl ?_
        refine xv_geta (q := 60) rfl dX7_taken_57 f_X7_29 (hg.1 _ _ rfl) (hg.2 _ _ _ rfl) ?_
        refine xv_iload_n (q := 61) rfl dX7_taken_60 rfl rfl ?_
        refine xv_iald (q := 62) rfl dX7_taken_61 (hg.1 _ _ rfl) rfl (by omega) (by decide) ?_
        refine xv_as (w := nI (c 1 r)) (hm 1 r (by decide) hr) ?_
        refine xv_goto (t := 67) rfl dX7_taken_62 ?_
        refine xv_iret dX7_taken_67 rfl ?_
        rw [if_pos h53]
        exact xq_rfl
    · have h20 := bIz h20
      refine xv_bipush (v := (-11)) (q := 25) rfl dX7_taken_23 rfl ?_
      refine xv_iret dX7_taken_25 rfl ?_
      rw [show sp_taken n c x (nI k) = -11 from (if_neg hq0).trans (if_pos h20)]
      exact xq_rfl
  · have zh9 := bIz zh9
    refine xv_bipush (v := (-2)) (q := 14) rfl dX7_taken_12 rfl ?_
    refine xv_iret dX7_taken_14 rfl ?_
    rw [show sp_taken n c x k = -2 from if_pos (by
      by_cases zh1 : k < 0
      · exact Or.inl zh1
      · exact Or.inr (fun zh2 => isR_f zh9 ⟨zh1, fun zh3 => Int32.lt_irrefl (Int32.lt_of_lt_of_le zh2 zh3)⟩))]
    exact xq_rfl
end MRIDERS
